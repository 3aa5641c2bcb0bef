theorem dX7_init_0 : decode cX7_init 0 = .ok (.aload_n 0, 1) := by decide +kernel
theorem dX7_init_1 : decode cX7_init 1 = .ok (.invokespecial 3, 3) := by decide +kernel
theorem dX7_init_4 : decode cX7_init 4 = .ok (.aload_n 0, 1) := by decide +kernel
theorem dX7_init_5 : decode cX7_init 5 = .ok (.aload_n 1, 1) := by decide +kernel
theorem dX7_init_6 : decode cX7_init 6 = .ok (.putfield 9, 3) := by decide +kernel
theorem dX7_init_9 : decode cX7_init 9 = .ok (.aload_n 0, 1) := by decide +kernel
theorem dX7_init_10 : decode cX7_init 10 = .ok (.iload_n 2, 1) := by decide +kernel
theorem dX7_init_11 : decode cX7_init 11 = .ok (.aload_n 1, 1) := by decide +kernel
theorem dX7_init_12 : decode cX7_init 12 = .ok (.arraylength, 1) := by decide +kernel
theorem dX7_init_13 : decode cX7_init 13 = .ok (.invokestatic 15, 3) := by decide +kernel
theorem dX7_init_16 : decode cX7_init 16 = .ok (.putfield 21, 3) := by decide +kernel
theorem dX7_init_19 : decode cX7_init 19 = .ok (.aload_n 0, 1) := by decide +kernel
theorem dX7_init_20 : decode cX7_init 20 = .ok (.new 25, 3) := by decide +kernel
theorem dX7_init_23 : decode cX7_init 23 = .ok (.dup, 1) := by decide +kernel
theorem dX7_init_24 : decode cX7_init 24 = .ok (.invokespecial 27, 3) := by decide +kernel
theorem dX7_init_27 : decode cX7_init 27 = .ok (.putfield 28, 3) := by decide +kernel
theorem dX7_init_30 : decode cX7_init 30 = .ok (.aload_n 0, 1) := by decide +kernel
theorem dX7_init_31 : decode cX7_init 31 = .ok (.new 32, 3) := by decide +kernel
theorem dX7_init_34 : decode cX7_init 34 = .ok (.dup, 1) := by decide +kernel
theorem dX7_init_35 : decode cX7_init 35 = .ok (.aload_n 0, 1) := by decide +kernel
theorem dX7_init_36 : decode cX7_init 36 = .ok (.getfield 28, 3) := by decide +kernel
theorem dX7_init_39 : decode cX7_init 39 = .ok (.invokespecial 34, 3) := by decide +kernel
theorem dX7_init_42 : decode cX7_init 42 = .ok (.putfield 37, 3) := by decide +kernel
theorem dX7_init_45 : decode cX7_init 45 = .ok (.return_, 1) := by decide +kernel
theorem dX7_isWhole_0 : decode cX7_isWhole 0 = .ok (.aload_n 0, 1) := by decide +kernel
theorem dX7_isWhole_1 : decode cX7_isWhole 1 = .ok (.invokevirtual 41, 3) := by decide +kernel
theorem dX7_isWhole_4 : decode cX7_isWhole 4 = .ok (.aload_n 0, 1) := by decide +kernel
theorem dX7_isWhole_5 : decode cX7_isWhole 5 = .ok (.invokevirtual 44, 3) := by decide +kernel
theorem dX7_isWhole_8 : decode cX7_isWhole 8 = .ok (.aload_n 0, 1) := by decide +kernel
theorem dX7_isWhole_9 : decode cX7_isWhole 9 = .ok (.invokevirtual 47, 3) := by decide +kernel
theorem dX7_isWhole_12 : decode cX7_isWhole 12 = .ok (.aload_n 0, 1) := by decide +kernel
theorem dX7_isWhole_13 : decode cX7_isWhole 13 = .ok (.getfield 50, 3) := by decide +kernel
theorem dX7_isWhole_16 : decode cX7_isWhole 16 = .ok (.ifCond .eq 8, 3) := by decide +kernel
theorem dX7_isWhole_19 : decode cX7_isWhole 19 = .ok (.aload_n 0, 1) := by decide +kernel
theorem dX7_isWhole_20 : decode cX7_isWhole 20 = .ok (.iconst 1, 1) := by decide +kernel
theorem dX7_isWhole_21 : decode cX7_isWhole 21 = .ok (.invokevirtual 53, 3) := by decide +kernel
theorem dX7_isWhole_24 : decode cX7_isWhole 24 = .ok (.aload_n 0, 1) := by decide +kernel
theorem dX7_isWhole_25 : decode cX7_isWhole 25 = .ok (.getfield 57, 3) := by decide +kernel
theorem dX7_isWhole_28 : decode cX7_isWhole 28 = .ok (.ifCond .ne 7, 3) := by decide +kernel
theorem dX7_isWhole_31 : decode cX7_isWhole 31 = .ok (.iconst 1, 1) := by decide +kernel
theorem dX7_isWhole_32 : decode cX7_isWhole 32 = .ok (.goto 4, 3) := by decide +kernel
theorem dX7_isWhole_35 : decode cX7_isWhole 35 = .ok (.iconst 0, 1) := by decide +kernel
theorem dX7_isWhole_36 : decode cX7_isWhole 36 = .ok (.ireturn, 1) := by decide +kernel
theorem dX7_readSpots_0 : decode cX7_readSpots 0 = .ok (.aload_n 0, 1) := by decide +kernel
theorem dX7_readSpots_1 : decode cX7_readSpots 1 = .ok (.ldc 60, 2) := by decide +kernel
theorem dX7_readSpots_3 : decode cX7_readSpots 3 = .ok (.invokevirtual 62, 3) := by decide +kernel
theorem dX7_readSpots_6 : decode cX7_readSpots 6 = .ok (.ifCond .ne 8, 3) := by decide +kernel
theorem dX7_readSpots_9 : decode cX7_readSpots 9 = .ok (.aload_n 0, 1) := by decide +kernel
theorem dX7_readSpots_10 : decode cX7_readSpots 10 = .ok (.iconst 1, 1) := by decide +kernel
theorem dX7_readSpots_11 : decode cX7_readSpots 11 = .ok (.invokevirtual 53, 3) := by decide +kernel
theorem dX7_readSpots_14 : decode cX7_readSpots 14 = .ok (.iconst 0, 1) := by decide +kernel
theorem dX7_readSpots_15 : decode cX7_readSpots 15 = .ok (.istore_n 1, 1) := by decide +kernel
theorem dX7_readSpots_16 : decode cX7_readSpots 16 = .ok (.iload_n 1, 1) := by decide +kernel
theorem dX7_readSpots_17 : decode cX7_readSpots 17 = .ok (.bipush 7, 2) := by decide +kernel
theorem dX7_readSpots_19 : decode cX7_readSpots 19 = .ok (.if_icmp .gt 48, 3) := by decide +kernel
theorem dX7_readSpots_22 : decode cX7_readSpots 22 = .ok (.aload_n 0, 1) := by decide +kernel
theorem dX7_readSpots_23 : decode cX7_readSpots 23 = .ok (.getfield 57, 3) := by decide +kernel
theorem dX7_readSpots_26 : decode cX7_readSpots 26 = .ok (.ifCond .ne 41, 3) := by decide +kernel
theorem dX7_readSpots_29 : decode cX7_readSpots 29 = .ok (.aload_n 0, 1) := by decide +kernel
theorem dX7_readSpots_30 : decode cX7_readSpots 30 = .ok (.ldc 60, 2) := by decide +kernel
theorem dX7_readSpots_32 : decode cX7_readSpots 32 = .ok (.invokevirtual 62, 3) := by decide +kernel
theorem dX7_readSpots_35 : decode cX7_readSpots 35 = .ok (.ifCond .eq 32, 3) := by decide +kernel
theorem dX7_readSpots_38 : decode cX7_readSpots 38 = .ok (.iload_n 1, 1) := by decide +kernel
theorem dX7_readSpots_39 : decode cX7_readSpots 39 = .ok (.bipush 7, 2) := by decide +kernel
theorem dX7_readSpots_41 : decode cX7_readSpots 41 = .ok (.if_icmp .ne 11, 3) := by decide +kernel
theorem dX7_readSpots_44 : decode cX7_readSpots 44 = .ok (.aload_n 0, 1) := by decide +kernel
theorem dX7_readSpots_45 : decode cX7_readSpots 45 = .ok (.iconst 3, 1) := by decide +kernel
theorem dX7_readSpots_46 : decode cX7_readSpots 46 = .ok (.invokevirtual 53, 3) := by decide +kernel
theorem dX7_readSpots_49 : decode cX7_readSpots 49 = .ok (.goto 12, 3) := by decide +kernel
theorem dX7_readSpots_52 : decode cX7_readSpots 52 = .ok (.aload_n 0, 1) := by decide +kernel
theorem dX7_readSpots_53 : decode cX7_readSpots 53 = .ok (.invokevirtual 41, 3) := by decide +kernel
theorem dX7_readSpots_56 : decode cX7_readSpots 56 = .ok (.aload_n 0, 1) := by decide +kernel
theorem dX7_readSpots_57 : decode cX7_readSpots 57 = .ok (.iload_n 1, 1) := by decide +kernel
theorem dX7_readSpots_58 : decode cX7_readSpots 58 = .ok (.invokevirtual 66, 3) := by decide +kernel
theorem dX7_readSpots_61 : decode cX7_readSpots 61 = .ok (.iinc 1 1, 3) := by decide +kernel
theorem dX7_readSpots_64 : decode cX7_readSpots 64 = .ok (.goto (-48), 3) := by decide +kernel
theorem dX7_readSpots_67 : decode cX7_readSpots 67 = .ok (.return_, 1) := by decide +kernel
theorem dX7_readSpot_0 : decode cX7_readSpot 0 = .ok (.aload_n 0, 1) := by decide +kernel
theorem dX7_readSpot_1 : decode cX7_readSpot 1 = .ok (.invokevirtual 69, 3) := by decide +kernel
theorem dX7_readSpot_4 : decode cX7_readSpot 4 = .ok (.istore_n 2, 1) := by decide +kernel
theorem dX7_readSpot_5 : decode cX7_readSpot 5 = .ok (.aload_n 0, 1) := by decide +kernel
theorem dX7_readSpot_6 : decode cX7_readSpot 6 = .ok (.iconst 1, 1) := by decide +kernel
theorem dX7_readSpot_7 : decode cX7_readSpot 7 = .ok (.iconst 5, 1) := by decide +kernel
theorem dX7_readSpot_8 : decode cX7_readSpot 8 = .ok (.invokevirtual 73, 3) := by decide +kernel
theorem dX7_readSpot_11 : decode cX7_readSpot 11 = .ok (.istore_n 3, 1) := by decide +kernel
theorem dX7_readSpot_12 : decode cX7_readSpot 12 = .ok (.aload_n 0, 1) := by decide +kernel
theorem dX7_readSpot_13 : decode cX7_readSpot 13 = .ok (.iconst 0, 1) := by decide +kernel
theorem dX7_readSpot_14 : decode cX7_readSpot 14 = .ok (.bipush 99, 2) := by decide +kernel
theorem dX7_readSpot_16 : decode cX7_readSpot 16 = .ok (.invokevirtual 73, 3) := by decide +kernel
theorem dX7_readSpot_19 : decode cX7_readSpot 19 = .ok (.istore 4, 2) := by decide +kernel
theorem dX7_readSpot_21 : decode cX7_readSpot 21 = .ok (.aload_n 0, 1) := by decide +kernel
theorem dX7_readSpot_22 : decode cX7_readSpot 22 = .ok (.iconst 0, 1) := by decide +kernel
theorem dX7_readSpot_23 : decode cX7_readSpot 23 = .ok (.bipush 99, 2) := by decide +kernel
theorem dX7_readSpot_25 : decode cX7_readSpot 25 = .ok (.invokevirtual 73, 3) := by decide +kernel
theorem dX7_readSpot_28 : decode cX7_readSpot 28 = .ok (.istore 5, 2) := by decide +kernel
theorem dX7_readSpot_30 : decode cX7_readSpot 30 = .ok (.aload_n 0, 1) := by decide +kernel
theorem dX7_readSpot_31 : decode cX7_readSpot 31 = .ok (.invokevirtual 76, 3) := by decide +kernel
theorem dX7_readSpot_34 : decode cX7_readSpot 34 = .ok (.aload_n 0, 1) := by decide +kernel
theorem dX7_readSpot_35 : decode cX7_readSpot 35 = .ok (.getfield 57, 3) := by decide +kernel
theorem dX7_readSpot_38 : decode cX7_readSpot 38 = .ok (.ifCond .ne 48, 3) := by decide +kernel
theorem dX7_readSpot_41 : decode cX7_readSpot 41 = .ok (.aload_n 0, 1) := by decide +kernel
theorem dX7_readSpot_42 : decode cX7_readSpot 42 = .ok (.getfield 28, 3) := by decide +kernel
theorem dX7_readSpot_45 : decode cX7_readSpot 45 = .ok (.iload_n 2, 1) := by decide +kernel
theorem dX7_readSpot_46 : decode cX7_readSpot 46 = .ok (.iload_n 1, 1) := by decide +kernel
theorem dX7_readSpot_47 : decode cX7_readSpot 47 = .ok (.iload_n 3, 1) := by decide +kernel
theorem dX7_readSpot_48 : decode cX7_readSpot 48 = .ok (.invokestatic 79, 3) := by decide +kernel
theorem dX7_readSpot_51 : decode cX7_readSpot 51 = .ok (.invokevirtual 83, 3) := by decide +kernel
theorem dX7_readSpot_54 : decode cX7_readSpot 54 = .ok (.aload_n 0, 1) := by decide +kernel
theorem dX7_readSpot_55 : decode cX7_readSpot 55 = .ok (.getfield 37, 3) := by decide +kernel
theorem dX7_readSpot_58 : decode cX7_readSpot 58 = .ok (.getfield 87, 3) := by decide +kernel
theorem dX7_readSpot_61 : decode cX7_readSpot 61 = .ok (.iload_n 1, 1) := by decide +kernel
theorem dX7_readSpot_62 : decode cX7_readSpot 62 = .ok (.iload 4, 2) := by decide +kernel
theorem dX7_readSpot_64 : decode cX7_readSpot 64 = .ok (.iastore, 1) := by decide +kernel
theorem dX7_readSpot_65 : decode cX7_readSpot 65 = .ok (.aload_n 0, 1) := by decide +kernel
theorem dX7_readSpot_66 : decode cX7_readSpot 66 = .ok (.getfield 37, 3) := by decide +kernel
theorem dX7_readSpot_69 : decode cX7_readSpot 69 = .ok (.getfield 91, 3) := by decide +kernel
theorem dX7_readSpot_72 : decode cX7_readSpot 72 = .ok (.iload_n 1, 1) := by decide +kernel
theorem dX7_readSpot_73 : decode cX7_readSpot 73 = .ok (.iload 5, 2) := by decide +kernel
theorem dX7_readSpot_75 : decode cX7_readSpot 75 = .ok (.iastore, 1) := by decide +kernel
theorem dX7_readSpot_76 : decode cX7_readSpot 76 = .ok (.aload_n 0, 1) := by decide +kernel
theorem dX7_readSpot_77 : decode cX7_readSpot 77 = .ok (.getfield 37, 3) := by decide +kernel
theorem dX7_readSpot_80 : decode cX7_readSpot 80 = .ok (.getfield 94, 3) := by decide +kernel
theorem dX7_readSpot_83 : decode cX7_readSpot 83 = .ok (.iload_n 1, 1) := by decide +kernel
theorem dX7_readSpot_84 : decode cX7_readSpot 84 = .ok (.iload_n 1, 1) := by decide +kernel
theorem dX7_readSpot_85 : decode cX7_readSpot 85 = .ok (.iastore, 1) := by decide +kernel
theorem dX7_readSpot_86 : decode cX7_readSpot 86 = .ok (.return_, 1) := by decide +kernel
theorem dX7_readReaders_0 : decode cX7_readReaders 0 = .ok (.iconst 0, 1) := by decide +kernel
theorem dX7_readReaders_1 : decode cX7_readReaders 1 = .ok (.istore_n 1, 1) := by decide +kernel
theorem dX7_readReaders_2 : decode cX7_readReaders 2 = .ok (.iload_n 1, 1) := by decide +kernel
theorem dX7_readReaders_3 : decode cX7_readReaders 3 = .ok (.iconst 4, 1) := by decide +kernel
theorem dX7_readReaders_4 : decode cX7_readReaders 4 = .ok (.if_icmp .gt 46, 3) := by decide +kernel
theorem dX7_readReaders_7 : decode cX7_readReaders 7 = .ok (.aload_n 0, 1) := by decide +kernel
theorem dX7_readReaders_8 : decode cX7_readReaders 8 = .ok (.getfield 57, 3) := by decide +kernel
theorem dX7_readReaders_11 : decode cX7_readReaders 11 = .ok (.ifCond .ne 39, 3) := by decide +kernel
theorem dX7_readReaders_14 : decode cX7_readReaders 14 = .ok (.aload_n 0, 1) := by decide +kernel
theorem dX7_readReaders_15 : decode cX7_readReaders 15 = .ok (.ldc 97, 2) := by decide +kernel
theorem dX7_readReaders_17 : decode cX7_readReaders 17 = .ok (.invokevirtual 62, 3) := by decide +kernel
theorem dX7_readReaders_20 : decode cX7_readReaders 20 = .ok (.ifCond .eq 30, 3) := by decide +kernel
theorem dX7_readReaders_23 : decode cX7_readReaders 23 = .ok (.iload_n 1, 1) := by decide +kernel
theorem dX7_readReaders_24 : decode cX7_readReaders 24 = .ok (.iconst 4, 1) := by decide +kernel
theorem dX7_readReaders_25 : decode cX7_readReaders 25 = .ok (.if_icmp .ne 11, 3) := by decide +kernel
theorem dX7_readReaders_28 : decode cX7_readReaders 28 = .ok (.aload_n 0, 1) := by decide +kernel
theorem dX7_readReaders_29 : decode cX7_readReaders 29 = .ok (.iconst 3, 1) := by decide +kernel
theorem dX7_readReaders_30 : decode cX7_readReaders 30 = .ok (.invokevirtual 53, 3) := by decide +kernel
theorem dX7_readReaders_33 : decode cX7_readReaders 33 = .ok (.goto 11, 3) := by decide +kernel
theorem dX7_readReaders_36 : decode cX7_readReaders 36 = .ok (.aload_n 0, 1) := by decide +kernel
theorem dX7_readReaders_37 : decode cX7_readReaders 37 = .ok (.invokevirtual 41, 3) := by decide +kernel
theorem dX7_readReaders_40 : decode cX7_readReaders 40 = .ok (.aload_n 0, 1) := by decide +kernel
theorem dX7_readReaders_41 : decode cX7_readReaders 41 = .ok (.invokevirtual 99, 3) := by decide +kernel
theorem dX7_readReaders_44 : decode cX7_readReaders 44 = .ok (.iinc 1 1, 3) := by decide +kernel
theorem dX7_readReaders_47 : decode cX7_readReaders 47 = .ok (.goto (-45), 3) := by decide +kernel
theorem dX7_readReaders_50 : decode cX7_readReaders 50 = .ok (.return_, 1) := by decide +kernel
theorem dX7_readReader_0 : decode cX7_readReader 0 = .ok (.aload_n 0, 1) := by decide +kernel
theorem dX7_readReader_1 : decode cX7_readReader 1 = .ok (.iconst 0, 1) := by decide +kernel
theorem dX7_readReader_2 : decode cX7_readReader 2 = .ok (.bipush 23, 2) := by decide +kernel
theorem dX7_readReader_4 : decode cX7_readReader 4 = .ok (.invokevirtual 73, 3) := by decide +kernel
theorem dX7_readReader_7 : decode cX7_readReader 7 = .ok (.istore_n 1, 1) := by decide +kernel
theorem dX7_readReader_8 : decode cX7_readReader 8 = .ok (.aload_n 0, 1) := by decide +kernel
theorem dX7_readReader_9 : decode cX7_readReader 9 = .ok (.iload_n 1, 1) := by decide +kernel
theorem dX7_readReader_10 : decode cX7_readReader 10 = .ok (.bipush 23, 2) := by decide +kernel
theorem dX7_readReader_12 : decode cX7_readReader 12 = .ok (.invokevirtual 73, 3) := by decide +kernel
theorem dX7_readReader_15 : decode cX7_readReader 15 = .ok (.istore_n 2, 1) := by decide +kernel
theorem dX7_readReader_16 : decode cX7_readReader 16 = .ok (.aload_n 0, 1) := by decide +kernel
theorem dX7_readReader_17 : decode cX7_readReader 17 = .ok (.invokevirtual 76, 3) := by decide +kernel
theorem dX7_readReader_20 : decode cX7_readReader 20 = .ok (.aload_n 0, 1) := by decide +kernel
theorem dX7_readReader_21 : decode cX7_readReader 21 = .ok (.getfield 57, 3) := by decide +kernel
theorem dX7_readReader_24 : decode cX7_readReader 24 = .ok (.ifCond .ne 12, 3) := by decide +kernel
theorem dX7_readReader_27 : decode cX7_readReader 27 = .ok (.aload_n 0, 1) := by decide +kernel
theorem dX7_readReader_28 : decode cX7_readReader 28 = .ok (.getfield 28, 3) := by decide +kernel
theorem dX7_readReader_31 : decode cX7_readReader 31 = .ok (.iload_n 1, 1) := by decide +kernel
theorem dX7_readReader_32 : decode cX7_readReader 32 = .ok (.iload_n 2, 1) := by decide +kernel
theorem dX7_readReader_33 : decode cX7_readReader 33 = .ok (.invokevirtual 102, 3) := by decide +kernel
theorem dX7_readReader_36 : decode cX7_readReader 36 = .ok (.return_, 1) := by decide +kernel
theorem dX7_readKind_0 : decode cX7_readKind 0 = .ok (.aload_n 0, 1) := by decide +kernel
theorem dX7_readKind_1 : decode cX7_readKind 1 = .ok (.invokevirtual 106, 3) := by decide +kernel
theorem dX7_readKind_4 : decode cX7_readKind 4 = .ok (.istore_n 1, 1) := by decide +kernel
theorem dX7_readKind_5 : decode cX7_readKind 5 = .ok (.iload_n 1, 1) := by decide +kernel
theorem dX7_readKind_6 : decode cX7_readKind 6 = .ok (.ifCond .ne 11, 3) := by decide +kernel
theorem dX7_readKind_9 : decode cX7_readKind 9 = .ok (.aload_n 0, 1) := by decide +kernel
theorem dX7_readKind_10 : decode cX7_readKind 10 = .ok (.iconst 1, 1) := by decide +kernel
theorem dX7_readKind_11 : decode cX7_readKind 11 = .ok (.invokevirtual 53, 3) := by decide +kernel
theorem dX7_readKind_14 : decode cX7_readKind 14 = .ok (.goto 7, 3) := by decide +kernel
theorem dX7_readKind_17 : decode cX7_readKind 17 = .ok (.aload_n 0, 1) := by decide +kernel
theorem dX7_readKind_18 : decode cX7_readKind 18 = .ok (.invokevirtual 41, 3) := by decide +kernel
theorem dX7_readKind_21 : decode cX7_readKind 21 = .ok (.iload_n 1, 1) := by decide +kernel
theorem dX7_readKind_22 : decode cX7_readKind 22 = .ok (.ireturn, 1) := by decide +kernel
theorem dX7_kindOfWord_0 : decode cX7_kindOfWord 0 = .ok (.aload_n 0, 1) := by decide +kernel
theorem dX7_kindOfWord_1 : decode cX7_kindOfWord 1 = .ok (.ldc 109, 2) := by decide +kernel
theorem dX7_kindOfWord_3 : decode cX7_kindOfWord 3 = .ok (.invokevirtual 62, 3) := by decide +kernel
theorem dX7_kindOfWord_6 : decode cX7_kindOfWord 6 = .ok (.ifCond .eq 5, 3) := by decide +kernel
theorem dX7_kindOfWord_9 : decode cX7_kindOfWord 9 = .ok (.iconst 1, 1) := by decide +kernel
theorem dX7_kindOfWord_10 : decode cX7_kindOfWord 10 = .ok (.ireturn, 1) := by decide +kernel
theorem dX7_kindOfWord_11 : decode cX7_kindOfWord 11 = .ok (.aload_n 0, 1) := by decide +kernel
theorem dX7_kindOfWord_12 : decode cX7_kindOfWord 12 = .ok (.ldc 111, 2) := by decide +kernel
theorem dX7_kindOfWord_14 : decode cX7_kindOfWord 14 = .ok (.invokevirtual 62, 3) := by decide +kernel
theorem dX7_kindOfWord_17 : decode cX7_kindOfWord 17 = .ok (.ifCond .eq 5, 3) := by decide +kernel
theorem dX7_kindOfWord_20 : decode cX7_kindOfWord 20 = .ok (.iconst 2, 1) := by decide +kernel
theorem dX7_kindOfWord_21 : decode cX7_kindOfWord 21 = .ok (.ireturn, 1) := by decide +kernel
theorem dX7_kindOfWord_22 : decode cX7_kindOfWord 22 = .ok (.aload_n 0, 1) := by decide +kernel
theorem dX7_kindOfWord_23 : decode cX7_kindOfWord 23 = .ok (.ldc 113, 2) := by decide +kernel
theorem dX7_kindOfWord_25 : decode cX7_kindOfWord 25 = .ok (.invokevirtual 62, 3) := by decide +kernel
theorem dX7_kindOfWord_28 : decode cX7_kindOfWord 28 = .ok (.ifCond .eq 5, 3) := by decide +kernel
theorem dX7_kindOfWord_31 : decode cX7_kindOfWord 31 = .ok (.iconst 3, 1) := by decide +kernel
theorem dX7_kindOfWord_32 : decode cX7_kindOfWord 32 = .ok (.ireturn, 1) := by decide +kernel
theorem dX7_kindOfWord_33 : decode cX7_kindOfWord 33 = .ok (.aload_n 0, 1) := by decide +kernel
theorem dX7_kindOfWord_34 : decode cX7_kindOfWord 34 = .ok (.ldc 115, 2) := by decide +kernel
theorem dX7_kindOfWord_36 : decode cX7_kindOfWord 36 = .ok (.invokevirtual 62, 3) := by decide +kernel
theorem dX7_kindOfWord_39 : decode cX7_kindOfWord 39 = .ok (.ifCond .eq 5, 3) := by decide +kernel
theorem dX7_kindOfWord_42 : decode cX7_kindOfWord 42 = .ok (.iconst 4, 1) := by decide +kernel
theorem dX7_kindOfWord_43 : decode cX7_kindOfWord 43 = .ok (.ireturn, 1) := by decide +kernel
theorem dX7_kindOfWord_44 : decode cX7_kindOfWord 44 = .ok (.aload_n 0, 1) := by decide +kernel
theorem dX7_kindOfWord_45 : decode cX7_kindOfWord 45 = .ok (.ldc 117, 2) := by decide +kernel
theorem dX7_kindOfWord_47 : decode cX7_kindOfWord 47 = .ok (.invokevirtual 62, 3) := by decide +kernel
theorem dX7_kindOfWord_50 : decode cX7_kindOfWord 50 = .ok (.ifCond .eq 7, 3) := by decide +kernel
theorem dX7_kindOfWord_53 : decode cX7_kindOfWord 53 = .ok (.iconst 5, 1) := by decide +kernel
theorem dX7_kindOfWord_54 : decode cX7_kindOfWord 54 = .ok (.goto 4, 3) := by decide +kernel
theorem dX7_kindOfWord_57 : decode cX7_kindOfWord 57 = .ok (.iconst 0, 1) := by decide +kernel
theorem dX7_kindOfWord_58 : decode cX7_kindOfWord 58 = .ok (.ireturn, 1) := by decide +kernel
theorem dX7_newPlace_0 : decode cX7_newPlace 0 = .ok (.iload_n 0, 1) := by decide +kernel
theorem dX7_newPlace_1 : decode cX7_newPlace 1 = .ok (.tableswitch 71 1 4 #[31, 41, 51, 61], 31) := by decide +kernel
theorem dX7_newPlace_32 : decode cX7_newPlace 32 = .ok (.new 119, 3) := by decide +kernel
theorem dX7_newPlace_35 : decode cX7_newPlace 35 = .ok (.dup, 1) := by decide +kernel
theorem dX7_newPlace_36 : decode cX7_newPlace 36 = .ok (.iload_n 1, 1) := by decide +kernel
theorem dX7_newPlace_37 : decode cX7_newPlace 37 = .ok (.iload_n 2, 1) := by decide +kernel
theorem dX7_newPlace_38 : decode cX7_newPlace 38 = .ok (.invokespecial 121, 3) := by decide +kernel
theorem dX7_newPlace_41 : decode cX7_newPlace 41 = .ok (.areturn, 1) := by decide +kernel
theorem dX7_newPlace_42 : decode cX7_newPlace 42 = .ok (.new 123, 3) := by decide +kernel
theorem dX7_newPlace_45 : decode cX7_newPlace 45 = .ok (.dup, 1) := by decide +kernel
theorem dX7_newPlace_46 : decode cX7_newPlace 46 = .ok (.iload_n 1, 1) := by decide +kernel
theorem dX7_newPlace_47 : decode cX7_newPlace 47 = .ok (.iload_n 2, 1) := by decide +kernel
theorem dX7_newPlace_48 : decode cX7_newPlace 48 = .ok (.invokespecial 125, 3) := by decide +kernel
theorem dX7_newPlace_51 : decode cX7_newPlace 51 = .ok (.areturn, 1) := by decide +kernel
theorem dX7_newPlace_52 : decode cX7_newPlace 52 = .ok (.new 126, 3) := by decide +kernel
theorem dX7_newPlace_55 : decode cX7_newPlace 55 = .ok (.dup, 1) := by decide +kernel
theorem dX7_newPlace_56 : decode cX7_newPlace 56 = .ok (.iload_n 1, 1) := by decide +kernel
theorem dX7_newPlace_57 : decode cX7_newPlace 57 = .ok (.iload_n 2, 1) := by decide +kernel
theorem dX7_newPlace_58 : decode cX7_newPlace 58 = .ok (.invokespecial 128, 3) := by decide +kernel
theorem dX7_newPlace_61 : decode cX7_newPlace 61 = .ok (.areturn, 1) := by decide +kernel
theorem dX7_newPlace_62 : decode cX7_newPlace 62 = .ok (.new 129, 3) := by decide +kernel
theorem dX7_newPlace_65 : decode cX7_newPlace 65 = .ok (.dup, 1) := by decide +kernel
theorem dX7_newPlace_66 : decode cX7_newPlace 66 = .ok (.iload_n 1, 1) := by decide +kernel
theorem dX7_newPlace_67 : decode cX7_newPlace 67 = .ok (.iload_n 2, 1) := by decide +kernel
theorem dX7_newPlace_68 : decode cX7_newPlace 68 = .ok (.invokespecial 131, 3) := by decide +kernel
theorem dX7_newPlace_71 : decode cX7_newPlace 71 = .ok (.areturn, 1) := by decide +kernel
theorem dX7_newPlace_72 : decode cX7_newPlace 72 = .ok (.new 132, 3) := by decide +kernel
theorem dX7_newPlace_75 : decode cX7_newPlace 75 = .ok (.dup, 1) := by decide +kernel
theorem dX7_newPlace_76 : decode cX7_newPlace 76 = .ok (.iload_n 1, 1) := by decide +kernel
theorem dX7_newPlace_77 : decode cX7_newPlace 77 = .ok (.iload_n 2, 1) := by decide +kernel
theorem dX7_newPlace_78 : decode cX7_newPlace 78 = .ok (.invokespecial 134, 3) := by decide +kernel
theorem dX7_newPlace_81 : decode cX7_newPlace 81 = .ok (.areturn, 1) := by decide +kernel
theorem dX7_readNumber_0 : decode cX7_readNumber 0 = .ok (.iconst 0, 1) := by decide +kernel
theorem dX7_readNumber_1 : decode cX7_readNumber 1 = .ok (.istore_n 3, 1) := by decide +kernel
theorem dX7_readNumber_2 : decode cX7_readNumber 2 = .ok (.aload_n 0, 1) := by decide +kernel
theorem dX7_readNumber_3 : decode cX7_readNumber 3 = .ok (.getfield 50, 3) := by decide +kernel
theorem dX7_readNumber_6 : decode cX7_readNumber 6 = .ok (.iconst 2, 1) := by decide +kernel
theorem dX7_readNumber_7 : decode cX7_readNumber 7 = .ok (.if_icmp .ne 40, 3) := by decide +kernel
theorem dX7_readNumber_10 : decode cX7_readNumber 10 = .ok (.aload_n 0, 1) := by decide +kernel
theorem dX7_readNumber_11 : decode cX7_readNumber 11 = .ok (.getfield 135, 3) := by decide +kernel
theorem dX7_readNumber_14 : decode cX7_readNumber 14 = .ok (.istore 4, 2) := by decide +kernel
theorem dX7_readNumber_16 : decode cX7_readNumber 16 = .ok (.iload 4, 2) := by decide +kernel
theorem dX7_readNumber_18 : decode cX7_readNumber 18 = .ok (.aload_n 0, 1) := by decide +kernel
theorem dX7_readNumber_19 : decode cX7_readNumber 19 = .ok (.getfield 138, 3) := by decide +kernel
theorem dX7_readNumber_22 : decode cX7_readNumber 22 = .ok (.if_icmp .ge 25, 3) := by decide +kernel
theorem dX7_readNumber_25 : decode cX7_readNumber 25 = .ok (.iload_n 3, 1) := by decide +kernel
theorem dX7_readNumber_26 : decode cX7_readNumber 26 = .ok (.bipush 10, 2) := by decide +kernel
theorem dX7_readNumber_28 : decode cX7_readNumber 28 = .ok (.imul, 1) := by decide +kernel
theorem dX7_readNumber_29 : decode cX7_readNumber 29 = .ok (.aload_n 0, 1) := by decide +kernel
theorem dX7_readNumber_30 : decode cX7_readNumber 30 = .ok (.getfield 9, 3) := by decide +kernel
theorem dX7_readNumber_33 : decode cX7_readNumber 33 = .ok (.iload 4, 2) := by decide +kernel
theorem dX7_readNumber_35 : decode cX7_readNumber 35 = .ok (.baload, 1) := by decide +kernel
theorem dX7_readNumber_36 : decode cX7_readNumber 36 = .ok (.iadd, 1) := by decide +kernel
theorem dX7_readNumber_37 : decode cX7_readNumber 37 = .ok (.bipush 48, 2) := by decide +kernel
theorem dX7_readNumber_39 : decode cX7_readNumber 39 = .ok (.isub, 1) := by decide +kernel
theorem dX7_readNumber_40 : decode cX7_readNumber 40 = .ok (.istore_n 3, 1) := by decide +kernel
theorem dX7_readNumber_41 : decode cX7_readNumber 41 = .ok (.iinc 4 1, 3) := by decide +kernel
theorem dX7_readNumber_44 : decode cX7_readNumber 44 = .ok (.goto (-28), 3) := by decide +kernel
theorem dX7_readNumber_47 : decode cX7_readNumber 47 = .ok (.aload_n 0, 1) := by decide +kernel
theorem dX7_readNumber_48 : decode cX7_readNumber 48 = .ok (.getfield 50, 3) := by decide +kernel
theorem dX7_readNumber_51 : decode cX7_readNumber 51 = .ok (.iconst 2, 1) := by decide +kernel
theorem dX7_readNumber_52 : decode cX7_readNumber 52 = .ok (.if_icmp .eq 11, 3) := by decide +kernel
theorem dX7_readNumber_55 : decode cX7_readNumber 55 = .ok (.aload_n 0, 1) := by decide +kernel
theorem dX7_readNumber_56 : decode cX7_readNumber 56 = .ok (.iconst 1, 1) := by decide +kernel
theorem dX7_readNumber_57 : decode cX7_readNumber 57 = .ok (.invokevirtual 53, 3) := by decide +kernel
theorem dX7_readNumber_60 : decode cX7_readNumber 60 = .ok (.goto 25, 3) := by decide +kernel
theorem dX7_readNumber_63 : decode cX7_readNumber 63 = .ok (.iload_n 3, 1) := by decide +kernel
theorem dX7_readNumber_64 : decode cX7_readNumber 64 = .ok (.iload_n 1, 1) := by decide +kernel
theorem dX7_readNumber_65 : decode cX7_readNumber 65 = .ok (.if_icmp .lt 8, 3) := by decide +kernel
theorem dX7_readNumber_68 : decode cX7_readNumber 68 = .ok (.iload_n 3, 1) := by decide +kernel
theorem dX7_readNumber_69 : decode cX7_readNumber 69 = .ok (.iload_n 2, 1) := by decide +kernel
theorem dX7_readNumber_70 : decode cX7_readNumber 70 = .ok (.if_icmp .le 11, 3) := by decide +kernel
theorem dX7_readNumber_73 : decode cX7_readNumber 73 = .ok (.aload_n 0, 1) := by decide +kernel
theorem dX7_readNumber_74 : decode cX7_readNumber 74 = .ok (.iconst 2, 1) := by decide +kernel
theorem dX7_readNumber_75 : decode cX7_readNumber 75 = .ok (.invokevirtual 53, 3) := by decide +kernel
theorem dX7_readNumber_78 : decode cX7_readNumber 78 = .ok (.goto 7, 3) := by decide +kernel
theorem dX7_readNumber_81 : decode cX7_readNumber 81 = .ok (.aload_n 0, 1) := by decide +kernel
theorem dX7_readNumber_82 : decode cX7_readNumber 82 = .ok (.invokevirtual 41, 3) := by decide +kernel
theorem dX7_readNumber_85 : decode cX7_readNumber 85 = .ok (.iload_n 3, 1) := by decide +kernel
theorem dX7_readNumber_86 : decode cX7_readNumber 86 = .ok (.ireturn, 1) := by decide +kernel
theorem dX7_readEnd_0 : decode cX7_readEnd 0 = .ok (.aload_n 0, 1) := by decide +kernel
theorem dX7_readEnd_1 : decode cX7_readEnd 1 = .ok (.getfield 50, 3) := by decide +kernel
theorem dX7_readEnd_4 : decode cX7_readEnd 4 = .ok (.iconst 3, 1) := by decide +kernel
theorem dX7_readEnd_5 : decode cX7_readEnd 5 = .ok (.if_icmp .ne 10, 3) := by decide +kernel
theorem dX7_readEnd_8 : decode cX7_readEnd 8 = .ok (.aload_n 0, 1) := by decide +kernel
theorem dX7_readEnd_9 : decode cX7_readEnd 9 = .ok (.invokevirtual 41, 3) := by decide +kernel
theorem dX7_readEnd_12 : decode cX7_readEnd 12 = .ok (.goto 8, 3) := by decide +kernel
theorem dX7_readEnd_15 : decode cX7_readEnd 15 = .ok (.aload_n 0, 1) := by decide +kernel
theorem dX7_readEnd_16 : decode cX7_readEnd 16 = .ok (.iconst 1, 1) := by decide +kernel
theorem dX7_readEnd_17 : decode cX7_readEnd 17 = .ok (.invokevirtual 53, 3) := by decide +kernel
theorem dX7_readEnd_20 : decode cX7_readEnd 20 = .ok (.return_, 1) := by decide +kernel
theorem dX7_fail_0 : decode cX7_fail 0 = .ok (.aload_n 0, 1) := by decide +kernel
theorem dX7_fail_1 : decode cX7_fail 1 = .ok (.getfield 57, 3) := by decide +kernel
theorem dX7_fail_4 : decode cX7_fail 4 = .ok (.ifCond .ne 8, 3) := by decide +kernel
theorem dX7_fail_7 : decode cX7_fail 7 = .ok (.aload_n 0, 1) := by decide +kernel
theorem dX7_fail_8 : decode cX7_fail 8 = .ok (.iload_n 1, 1) := by decide +kernel
theorem dX7_fail_9 : decode cX7_fail 9 = .ok (.putfield 57, 3) := by decide +kernel
theorem dX7_fail_12 : decode cX7_fail 12 = .ok (.return_, 1) := by decide +kernel
theorem dX7_isWord_0 : decode cX7_isWord 0 = .ok (.aload_n 0, 1) := by decide +kernel
theorem dX7_isWord_1 : decode cX7_isWord 1 = .ok (.getfield 50, 3) := by decide +kernel
theorem dX7_isWord_4 : decode cX7_isWord 4 = .ok (.iconst 1, 1) := by decide +kernel
theorem dX7_isWord_5 : decode cX7_isWord 5 = .ok (.if_icmp .ne 19, 3) := by decide +kernel
theorem dX7_isWord_8 : decode cX7_isWord 8 = .ok (.aload_n 0, 1) := by decide +kernel
theorem dX7_isWord_9 : decode cX7_isWord 9 = .ok (.getfield 138, 3) := by decide +kernel
theorem dX7_isWord_12 : decode cX7_isWord 12 = .ok (.aload_n 0, 1) := by decide +kernel
theorem dX7_isWord_13 : decode cX7_isWord 13 = .ok (.getfield 135, 3) := by decide +kernel
theorem dX7_isWord_16 : decode cX7_isWord 16 = .ok (.isub, 1) := by decide +kernel
theorem dX7_isWord_17 : decode cX7_isWord 17 = .ok (.aload_n 1, 1) := by decide +kernel
theorem dX7_isWord_18 : decode cX7_isWord 18 = .ok (.invokevirtual 141, 3) := by decide +kernel
theorem dX7_isWord_21 : decode cX7_isWord 21 = .ok (.if_icmp .eq 5, 3) := by decide +kernel
theorem dX7_isWord_24 : decode cX7_isWord 24 = .ok (.iconst 0, 1) := by decide +kernel
theorem dX7_isWord_25 : decode cX7_isWord 25 = .ok (.ireturn, 1) := by decide +kernel
theorem dX7_isWord_26 : decode cX7_isWord 26 = .ok (.iconst 0, 1) := by decide +kernel
theorem dX7_isWord_27 : decode cX7_isWord 27 = .ok (.istore_n 2, 1) := by decide +kernel
theorem dX7_isWord_28 : decode cX7_isWord 28 = .ok (.iload_n 2, 1) := by decide +kernel
theorem dX7_isWord_29 : decode cX7_isWord 29 = .ok (.aload_n 1, 1) := by decide +kernel
theorem dX7_isWord_30 : decode cX7_isWord 30 = .ok (.invokevirtual 141, 3) := by decide +kernel
theorem dX7_isWord_33 : decode cX7_isWord 33 = .ok (.if_icmp .ge 30, 3) := by decide +kernel
theorem dX7_isWord_36 : decode cX7_isWord 36 = .ok (.aload_n 0, 1) := by decide +kernel
theorem dX7_isWord_37 : decode cX7_isWord 37 = .ok (.getfield 9, 3) := by decide +kernel
theorem dX7_isWord_40 : decode cX7_isWord 40 = .ok (.aload_n 0, 1) := by decide +kernel
theorem dX7_isWord_41 : decode cX7_isWord 41 = .ok (.getfield 135, 3) := by decide +kernel
theorem dX7_isWord_44 : decode cX7_isWord 44 = .ok (.iload_n 2, 1) := by decide +kernel
theorem dX7_isWord_45 : decode cX7_isWord 45 = .ok (.iadd, 1) := by decide +kernel
theorem dX7_isWord_46 : decode cX7_isWord 46 = .ok (.baload, 1) := by decide +kernel
theorem dX7_isWord_47 : decode cX7_isWord 47 = .ok (.aload_n 1, 1) := by decide +kernel
theorem dX7_isWord_48 : decode cX7_isWord 48 = .ok (.iload_n 2, 1) := by decide +kernel
theorem dX7_isWord_49 : decode cX7_isWord 49 = .ok (.invokevirtual 145, 3) := by decide +kernel
theorem dX7_isWord_52 : decode cX7_isWord 52 = .ok (.if_icmp .eq 5, 3) := by decide +kernel
theorem dX7_isWord_55 : decode cX7_isWord 55 = .ok (.iconst 0, 1) := by decide +kernel
theorem dX7_isWord_56 : decode cX7_isWord 56 = .ok (.ireturn, 1) := by decide +kernel
theorem dX7_isWord_57 : decode cX7_isWord 57 = .ok (.iinc 2 1, 3) := by decide +kernel
theorem dX7_isWord_60 : decode cX7_isWord 60 = .ok (.goto (-32), 3) := by decide +kernel
theorem dX7_isWord_63 : decode cX7_isWord 63 = .ok (.iconst 1, 1) := by decide +kernel
theorem dX7_isWord_64 : decode cX7_isWord 64 = .ok (.ireturn, 1) := by decide +kernel
theorem dX7_advance_0 : decode cX7_advance 0 = .ok (.aload_n 0, 1) := by decide +kernel
theorem dX7_advance_1 : decode cX7_advance 1 = .ok (.getfield 57, 3) := by decide +kernel
theorem dX7_advance_4 : decode cX7_advance 4 = .ok (.ifCond .eq 4, 3) := by decide +kernel
theorem dX7_advance_7 : decode cX7_advance 7 = .ok (.return_, 1) := by decide +kernel
theorem dX7_advance_8 : decode cX7_advance 8 = .ok (.aload_n 0, 1) := by decide +kernel
theorem dX7_advance_9 : decode cX7_advance 9 = .ok (.aload_n 0, 1) := by decide +kernel
theorem dX7_advance_10 : decode cX7_advance 10 = .ok (.getfield 138, 3) := by decide +kernel
theorem dX7_advance_13 : decode cX7_advance 13 = .ok (.putfield 135, 3) := by decide +kernel
theorem dX7_advance_16 : decode cX7_advance 16 = .ok (.aload_n 0, 1) := by decide +kernel
theorem dX7_advance_17 : decode cX7_advance 17 = .ok (.getfield 135, 3) := by decide +kernel
theorem dX7_advance_20 : decode cX7_advance 20 = .ok (.aload_n 0, 1) := by decide +kernel
theorem dX7_advance_21 : decode cX7_advance 21 = .ok (.getfield 21, 3) := by decide +kernel
theorem dX7_advance_24 : decode cX7_advance 24 = .ok (.if_icmp .ge 44, 3) := by decide +kernel
theorem dX7_advance_27 : decode cX7_advance 27 = .ok (.aload_n 0, 1) := by decide +kernel
theorem dX7_advance_28 : decode cX7_advance 28 = .ok (.getfield 9, 3) := by decide +kernel
theorem dX7_advance_31 : decode cX7_advance 31 = .ok (.aload_n 0, 1) := by decide +kernel
theorem dX7_advance_32 : decode cX7_advance 32 = .ok (.getfield 135, 3) := by decide +kernel
theorem dX7_advance_35 : decode cX7_advance 35 = .ok (.baload, 1) := by decide +kernel
theorem dX7_advance_36 : decode cX7_advance 36 = .ok (.bipush 32, 2) := by decide +kernel
theorem dX7_advance_38 : decode cX7_advance 38 = .ok (.if_icmp .eq 17, 3) := by decide +kernel
theorem dX7_advance_41 : decode cX7_advance 41 = .ok (.aload_n 0, 1) := by decide +kernel
theorem dX7_advance_42 : decode cX7_advance 42 = .ok (.getfield 9, 3) := by decide +kernel
theorem dX7_advance_45 : decode cX7_advance 45 = .ok (.aload_n 0, 1) := by decide +kernel
theorem dX7_advance_46 : decode cX7_advance 46 = .ok (.getfield 135, 3) := by decide +kernel
theorem dX7_advance_49 : decode cX7_advance 49 = .ok (.baload, 1) := by decide +kernel
theorem dX7_advance_50 : decode cX7_advance 50 = .ok (.bipush 10, 2) := by decide +kernel
theorem dX7_advance_52 : decode cX7_advance 52 = .ok (.if_icmp .ne 16, 3) := by decide +kernel
theorem dX7_advance_55 : decode cX7_advance 55 = .ok (.aload_n 0, 1) := by decide +kernel
theorem dX7_advance_56 : decode cX7_advance 56 = .ok (.dup, 1) := by decide +kernel
theorem dX7_advance_57 : decode cX7_advance 57 = .ok (.getfield 135, 3) := by decide +kernel
theorem dX7_advance_60 : decode cX7_advance 60 = .ok (.iconst 1, 1) := by decide +kernel
theorem dX7_advance_61 : decode cX7_advance 61 = .ok (.iadd, 1) := by decide +kernel
theorem dX7_advance_62 : decode cX7_advance 62 = .ok (.putfield 135, 3) := by decide +kernel
theorem dX7_advance_65 : decode cX7_advance 65 = .ok (.goto (-49), 3) := by decide +kernel
theorem dX7_advance_68 : decode cX7_advance 68 = .ok (.aload_n 0, 1) := by decide +kernel
theorem dX7_advance_69 : decode cX7_advance 69 = .ok (.aload_n 0, 1) := by decide +kernel
theorem dX7_advance_70 : decode cX7_advance 70 = .ok (.getfield 135, 3) := by decide +kernel
theorem dX7_advance_73 : decode cX7_advance 73 = .ok (.putfield 138, 3) := by decide +kernel
theorem dX7_advance_76 : decode cX7_advance 76 = .ok (.aload_n 0, 1) := by decide +kernel
theorem dX7_advance_77 : decode cX7_advance 77 = .ok (.getfield 138, 3) := by decide +kernel
theorem dX7_advance_80 : decode cX7_advance 80 = .ok (.aload_n 0, 1) := by decide +kernel
theorem dX7_advance_81 : decode cX7_advance 81 = .ok (.getfield 21, 3) := by decide +kernel
theorem dX7_advance_84 : decode cX7_advance 84 = .ok (.if_icmp .ge 31, 3) := by decide +kernel
theorem dX7_advance_87 : decode cX7_advance 87 = .ok (.aload_n 0, 1) := by decide +kernel
theorem dX7_advance_88 : decode cX7_advance 88 = .ok (.getfield 9, 3) := by decide +kernel
theorem dX7_advance_91 : decode cX7_advance 91 = .ok (.aload_n 0, 1) := by decide +kernel
theorem dX7_advance_92 : decode cX7_advance 92 = .ok (.getfield 138, 3) := by decide +kernel
theorem dX7_advance_95 : decode cX7_advance 95 = .ok (.baload, 1) := by decide +kernel
theorem dX7_advance_96 : decode cX7_advance 96 = .ok (.invokestatic 149, 3) := by decide +kernel
theorem dX7_advance_99 : decode cX7_advance 99 = .ok (.ifCond .eq 16, 3) := by decide +kernel
theorem dX7_advance_102 : decode cX7_advance 102 = .ok (.aload_n 0, 1) := by decide +kernel
theorem dX7_advance_103 : decode cX7_advance 103 = .ok (.dup, 1) := by decide +kernel
theorem dX7_advance_104 : decode cX7_advance 104 = .ok (.getfield 138, 3) := by decide +kernel
theorem dX7_advance_107 : decode cX7_advance 107 = .ok (.iconst 1, 1) := by decide +kernel
theorem dX7_advance_108 : decode cX7_advance 108 = .ok (.iadd, 1) := by decide +kernel
theorem dX7_advance_109 : decode cX7_advance 109 = .ok (.putfield 138, 3) := by decide +kernel
theorem dX7_advance_112 : decode cX7_advance 112 = .ok (.goto (-36), 3) := by decide +kernel
theorem dX7_advance_115 : decode cX7_advance 115 = .ok (.aload_n 0, 1) := by decide +kernel
theorem dX7_advance_116 : decode cX7_advance 116 = .ok (.getfield 138, 3) := by decide +kernel
theorem dX7_advance_119 : decode cX7_advance 119 = .ok (.aload_n 0, 1) := by decide +kernel
theorem dX7_advance_120 : decode cX7_advance 120 = .ok (.getfield 135, 3) := by decide +kernel
theorem dX7_advance_123 : decode cX7_advance 123 = .ok (.if_icmp .le 9, 3) := by decide +kernel
theorem dX7_advance_126 : decode cX7_advance 126 = .ok (.aload_n 0, 1) := by decide +kernel
theorem dX7_advance_127 : decode cX7_advance 127 = .ok (.iconst 1, 1) := by decide +kernel
theorem dX7_advance_128 : decode cX7_advance 128 = .ok (.putfield 50, 3) := by decide +kernel
theorem dX7_advance_131 : decode cX7_advance 131 = .ok (.return_, 1) := by decide +kernel
theorem dX7_advance_132 : decode cX7_advance 132 = .ok (.aload_n 0, 1) := by decide +kernel
theorem dX7_advance_133 : decode cX7_advance 133 = .ok (.getfield 138, 3) := by decide +kernel
theorem dX7_advance_136 : decode cX7_advance 136 = .ok (.aload_n 0, 1) := by decide +kernel
theorem dX7_advance_137 : decode cX7_advance 137 = .ok (.getfield 21, 3) := by decide +kernel
theorem dX7_advance_140 : decode cX7_advance 140 = .ok (.if_icmp .ge 31, 3) := by decide +kernel
theorem dX7_advance_143 : decode cX7_advance 143 = .ok (.aload_n 0, 1) := by decide +kernel
theorem dX7_advance_144 : decode cX7_advance 144 = .ok (.getfield 9, 3) := by decide +kernel
theorem dX7_advance_147 : decode cX7_advance 147 = .ok (.aload_n 0, 1) := by decide +kernel
theorem dX7_advance_148 : decode cX7_advance 148 = .ok (.getfield 138, 3) := by decide +kernel
theorem dX7_advance_151 : decode cX7_advance 151 = .ok (.baload, 1) := by decide +kernel
theorem dX7_advance_152 : decode cX7_advance 152 = .ok (.invokestatic 153, 3) := by decide +kernel
theorem dX7_advance_155 : decode cX7_advance 155 = .ok (.ifCond .eq 16, 3) := by decide +kernel
theorem dX7_advance_158 : decode cX7_advance 158 = .ok (.aload_n 0, 1) := by decide +kernel
theorem dX7_advance_159 : decode cX7_advance 159 = .ok (.dup, 1) := by decide +kernel
theorem dX7_advance_160 : decode cX7_advance 160 = .ok (.getfield 138, 3) := by decide +kernel
theorem dX7_advance_163 : decode cX7_advance 163 = .ok (.iconst 1, 1) := by decide +kernel
theorem dX7_advance_164 : decode cX7_advance 164 = .ok (.iadd, 1) := by decide +kernel
theorem dX7_advance_165 : decode cX7_advance 165 = .ok (.putfield 138, 3) := by decide +kernel
theorem dX7_advance_168 : decode cX7_advance 168 = .ok (.goto (-36), 3) := by decide +kernel
theorem dX7_advance_171 : decode cX7_advance 171 = .ok (.aload_n 0, 1) := by decide +kernel
theorem dX7_advance_172 : decode cX7_advance 172 = .ok (.getfield 138, 3) := by decide +kernel
theorem dX7_advance_175 : decode cX7_advance 175 = .ok (.aload_n 0, 1) := by decide +kernel
theorem dX7_advance_176 : decode cX7_advance 176 = .ok (.getfield 135, 3) := by decide +kernel
theorem dX7_advance_179 : decode cX7_advance 179 = .ok (.if_icmp .le 28, 3) := by decide +kernel
theorem dX7_advance_182 : decode cX7_advance 182 = .ok (.aload_n 0, 1) := by decide +kernel
theorem dX7_advance_183 : decode cX7_advance 183 = .ok (.aload_n 0, 1) := by decide +kernel
theorem dX7_advance_184 : decode cX7_advance 184 = .ok (.getfield 138, 3) := by decide +kernel
theorem dX7_advance_187 : decode cX7_advance 187 = .ok (.aload_n 0, 1) := by decide +kernel
theorem dX7_advance_188 : decode cX7_advance 188 = .ok (.getfield 135, 3) := by decide +kernel
theorem dX7_advance_191 : decode cX7_advance 191 = .ok (.isub, 1) := by decide +kernel
theorem dX7_advance_192 : decode cX7_advance 192 = .ok (.iconst 3, 1) := by decide +kernel
theorem dX7_advance_193 : decode cX7_advance 193 = .ok (.if_icmp .le 7, 3) := by decide +kernel
theorem dX7_advance_196 : decode cX7_advance 196 = .ok (.iconst 4, 1) := by decide +kernel
theorem dX7_advance_197 : decode cX7_advance 197 = .ok (.goto 4, 3) := by decide +kernel
theorem dX7_advance_200 : decode cX7_advance 200 = .ok (.iconst 2, 1) := by decide +kernel
theorem dX7_advance_201 : decode cX7_advance 201 = .ok (.putfield 50, 3) := by decide +kernel
theorem dX7_advance_204 : decode cX7_advance 204 = .ok (.goto 7, 3) := by decide +kernel
theorem dX7_advance_207 : decode cX7_advance 207 = .ok (.aload_n 0, 1) := by decide +kernel
theorem dX7_advance_208 : decode cX7_advance 208 = .ok (.invokevirtual 156, 3) := by decide +kernel
theorem dX7_advance_211 : decode cX7_advance 211 = .ok (.return_, 1) := by decide +kernel
theorem dX7_advanceOverSign_0 : decode cX7_advanceOverSign 0 = .ok (.aload_n 0, 1) := by decide +kernel
theorem dX7_advanceOverSign_1 : decode cX7_advanceOverSign 1 = .ok (.getfield 135, 3) := by decide +kernel
theorem dX7_advanceOverSign_4 : decode cX7_advanceOverSign 4 = .ok (.aload_n 0, 1) := by decide +kernel
theorem dX7_advanceOverSign_5 : decode cX7_advanceOverSign 5 = .ok (.getfield 21, 3) := by decide +kernel
theorem dX7_advanceOverSign_8 : decode cX7_advanceOverSign 8 = .ok (.if_icmp .lt 9, 3) := by decide +kernel
theorem dX7_advanceOverSign_11 : decode cX7_advanceOverSign 11 = .ok (.aload_n 0, 1) := by decide +kernel
theorem dX7_advanceOverSign_12 : decode cX7_advanceOverSign 12 = .ok (.iconst 0, 1) := by decide +kernel
theorem dX7_advanceOverSign_13 : decode cX7_advanceOverSign 13 = .ok (.putfield 50, 3) := by decide +kernel
theorem dX7_advanceOverSign_16 : decode cX7_advanceOverSign 16 = .ok (.return_, 1) := by decide +kernel
theorem dX7_advanceOverSign_17 : decode cX7_advanceOverSign 17 = .ok (.aload_n 0, 1) := by decide +kernel
theorem dX7_advanceOverSign_18 : decode cX7_advanceOverSign 18 = .ok (.aload_n 0, 1) := by decide +kernel
theorem dX7_advanceOverSign_19 : decode cX7_advanceOverSign 19 = .ok (.getfield 9, 3) := by decide +kernel
theorem dX7_advanceOverSign_22 : decode cX7_advanceOverSign 22 = .ok (.aload_n 0, 1) := by decide +kernel
theorem dX7_advanceOverSign_23 : decode cX7_advanceOverSign 23 = .ok (.getfield 135, 3) := by decide +kernel
theorem dX7_advanceOverSign_26 : decode cX7_advanceOverSign 26 = .ok (.baload, 1) := by decide +kernel
theorem dX7_advanceOverSign_27 : decode cX7_advanceOverSign 27 = .ok (.bipush 59, 2) := by decide +kernel
theorem dX7_advanceOverSign_29 : decode cX7_advanceOverSign 29 = .ok (.if_icmp .ne 7, 3) := by decide +kernel
theorem dX7_advanceOverSign_32 : decode cX7_advanceOverSign 32 = .ok (.iconst 3, 1) := by decide +kernel
theorem dX7_advanceOverSign_33 : decode cX7_advanceOverSign 33 = .ok (.goto 4, 3) := by decide +kernel
theorem dX7_advanceOverSign_36 : decode cX7_advanceOverSign 36 = .ok (.iconst 4, 1) := by decide +kernel
theorem dX7_advanceOverSign_37 : decode cX7_advanceOverSign 37 = .ok (.putfield 50, 3) := by decide +kernel
theorem dX7_advanceOverSign_40 : decode cX7_advanceOverSign 40 = .ok (.aload_n 0, 1) := by decide +kernel
theorem dX7_advanceOverSign_41 : decode cX7_advanceOverSign 41 = .ok (.aload_n 0, 1) := by decide +kernel
theorem dX7_advanceOverSign_42 : decode cX7_advanceOverSign 42 = .ok (.getfield 135, 3) := by decide +kernel
theorem dX7_advanceOverSign_45 : decode cX7_advanceOverSign 45 = .ok (.iconst 1, 1) := by decide +kernel
theorem dX7_advanceOverSign_46 : decode cX7_advanceOverSign 46 = .ok (.iadd, 1) := by decide +kernel
theorem dX7_advanceOverSign_47 : decode cX7_advanceOverSign 47 = .ok (.putfield 138, 3) := by decide +kernel
theorem dX7_advanceOverSign_50 : decode cX7_advanceOverSign 50 = .ok (.return_, 1) := by decide +kernel
theorem dX7_isLetter_0 : decode cX7_isLetter 0 = .ok (.iload_n 0, 1) := by decide +kernel
theorem dX7_isLetter_1 : decode cX7_isLetter 1 = .ok (.bipush 97, 2) := by decide +kernel
theorem dX7_isLetter_3 : decode cX7_isLetter 3 = .ok (.if_icmp .lt 13, 3) := by decide +kernel
theorem dX7_isLetter_6 : decode cX7_isLetter 6 = .ok (.iload_n 0, 1) := by decide +kernel
theorem dX7_isLetter_7 : decode cX7_isLetter 7 = .ok (.bipush 122, 2) := by decide +kernel
theorem dX7_isLetter_9 : decode cX7_isLetter 9 = .ok (.if_icmp .gt 7, 3) := by decide +kernel
theorem dX7_isLetter_12 : decode cX7_isLetter 12 = .ok (.iconst 1, 1) := by decide +kernel
theorem dX7_isLetter_13 : decode cX7_isLetter 13 = .ok (.goto 4, 3) := by decide +kernel
theorem dX7_isLetter_16 : decode cX7_isLetter 16 = .ok (.iconst 0, 1) := by decide +kernel
theorem dX7_isLetter_17 : decode cX7_isLetter 17 = .ok (.ireturn, 1) := by decide +kernel
theorem dX7_isFigure_0 : decode cX7_isFigure 0 = .ok (.iload_n 0, 1) := by decide +kernel
theorem dX7_isFigure_1 : decode cX7_isFigure 1 = .ok (.bipush 48, 2) := by decide +kernel
theorem dX7_isFigure_3 : decode cX7_isFigure 3 = .ok (.if_icmp .lt 13, 3) := by decide +kernel
theorem dX7_isFigure_6 : decode cX7_isFigure 6 = .ok (.iload_n 0, 1) := by decide +kernel
theorem dX7_isFigure_7 : decode cX7_isFigure 7 = .ok (.bipush 57, 2) := by decide +kernel
theorem dX7_isFigure_9 : decode cX7_isFigure 9 = .ok (.if_icmp .gt 7, 3) := by decide +kernel
theorem dX7_isFigure_12 : decode cX7_isFigure 12 = .ok (.iconst 1, 1) := by decide +kernel
theorem dX7_isFigure_13 : decode cX7_isFigure 13 = .ok (.goto 4, 3) := by decide +kernel
theorem dX7_isFigure_16 : decode cX7_isFigure 16 = .ok (.iconst 0, 1) := by decide +kernel
theorem dX7_isFigure_17 : decode cX7_isFigure 17 = .ok (.ireturn, 1) := by decide +kernel
