theorem dX12_init_0 : decode cX12_init 0 = .ok (.aload_n 0, 1) := by decide +kernel
theorem dX12_init_1 : decode cX12_init 1 = .ok (.invokespecial 1, 3) := by decide +kernel
theorem dX12_init_4 : decode cX12_init 4 = .ok (.aload_n 0, 1) := by decide +kernel
theorem dX12_init_5 : decode cX12_init 5 = .ok (.bipush 54, 2) := by decide +kernel
theorem dX12_init_7 : decode cX12_init 7 = .ok (.newarray .int, 2) := by decide +kernel
theorem dX12_init_9 : decode cX12_init 9 = .ok (.putfield 7, 3) := by decide +kernel
theorem dX12_init_12 : decode cX12_init 12 = .ok (.aload_n 0, 1) := by decide +kernel
theorem dX12_init_13 : decode cX12_init 13 = .ok (.bipush 108, 2) := by decide +kernel
theorem dX12_init_15 : decode cX12_init 15 = .ok (.newarray .int, 2) := by decide +kernel
theorem dX12_init_17 : decode cX12_init 17 = .ok (.putfield 13, 3) := by decide +kernel
theorem dX12_init_20 : decode cX12_init 20 = .ok (.aload_n 0, 1) := by decide +kernel
theorem dX12_init_21 : decode cX12_init 21 = .ok (.iconst 2, 1) := by decide +kernel
theorem dX12_init_22 : decode cX12_init 22 = .ok (.newarray .boolean, 2) := by decide +kernel
theorem dX12_init_24 : decode cX12_init 24 = .ok (.putfield 16, 3) := by decide +kernel
theorem dX12_init_27 : decode cX12_init 27 = .ok (.aload_n 0, 1) := by decide +kernel
theorem dX12_init_28 : decode cX12_init 28 = .ok (.sipush 696, 3) := by decide +kernel
theorem dX12_init_31 : decode cX12_init 31 = .ok (.newarray .int, 2) := by decide +kernel
theorem dX12_init_33 : decode cX12_init 33 = .ok (.putfield 20, 3) := by decide +kernel
theorem dX12_init_36 : decode cX12_init 36 = .ok (.aload_n 0, 1) := by decide +kernel
theorem dX12_init_37 : decode cX12_init 37 = .ok (.bipush 8, 2) := by decide +kernel
theorem dX12_init_39 : decode cX12_init 39 = .ok (.newarray .int, 2) := by decide +kernel
theorem dX12_init_41 : decode cX12_init 41 = .ok (.putfield 23, 3) := by decide +kernel
theorem dX12_init_44 : decode cX12_init 44 = .ok (.aload_n 0, 1) := by decide +kernel
theorem dX12_init_45 : decode cX12_init 45 = .ok (.bipush 8, 2) := by decide +kernel
theorem dX12_init_47 : decode cX12_init 47 = .ok (.newarray .int, 2) := by decide +kernel
theorem dX12_init_49 : decode cX12_init 49 = .ok (.putfield 26, 3) := by decide +kernel
theorem dX12_init_52 : decode cX12_init 52 = .ok (.aload_n 0, 1) := by decide +kernel
theorem dX12_init_53 : decode cX12_init 53 = .ok (.sipush 320, 3) := by decide +kernel
theorem dX12_init_56 : decode cX12_init 56 = .ok (.newarray .int, 2) := by decide +kernel
theorem dX12_init_58 : decode cX12_init 58 = .ok (.putfield 29, 3) := by decide +kernel
theorem dX12_init_61 : decode cX12_init 61 = .ok (.aload_n 0, 1) := by decide +kernel
theorem dX12_init_62 : decode cX12_init 62 = .ok (.sipush 400, 3) := by decide +kernel
theorem dX12_init_65 : decode cX12_init 65 = .ok (.newarray .int, 2) := by decide +kernel
theorem dX12_init_67 : decode cX12_init 67 = .ok (.putfield 32, 3) := by decide +kernel
theorem dX12_init_70 : decode cX12_init 70 = .ok (.aload_n 0, 1) := by decide +kernel
theorem dX12_init_71 : decode cX12_init 71 = .ok (.bipush 54, 2) := by decide +kernel
theorem dX12_init_73 : decode cX12_init 73 = .ok (.newarray .int, 2) := by decide +kernel
theorem dX12_init_75 : decode cX12_init 75 = .ok (.putfield 35, 3) := by decide +kernel
theorem dX12_init_78 : decode cX12_init 78 = .ok (.aload_n 0, 1) := by decide +kernel
theorem dX12_init_79 : decode cX12_init 79 = .ok (.bipush 16, 2) := by decide +kernel
theorem dX12_init_81 : decode cX12_init 81 = .ok (.newarray .int, 2) := by decide +kernel
theorem dX12_init_83 : decode cX12_init 83 = .ok (.putfield 38, 3) := by decide +kernel
theorem dX12_init_86 : decode cX12_init 86 = .ok (.iconst 0, 1) := by decide +kernel
theorem dX12_init_87 : decode cX12_init 87 = .ok (.istore_n 1, 1) := by decide +kernel
theorem dX12_init_88 : decode cX12_init 88 = .ok (.iload_n 1, 1) := by decide +kernel
theorem dX12_init_89 : decode cX12_init 89 = .ok (.bipush 8, 2) := by decide +kernel
theorem dX12_init_91 : decode cX12_init 91 = .ok (.if_icmp .ge 17, 3) := by decide +kernel
theorem dX12_init_94 : decode cX12_init 94 = .ok (.aload_n 0, 1) := by decide +kernel
theorem dX12_init_95 : decode cX12_init 95 = .ok (.getfield 23, 3) := by decide +kernel
theorem dX12_init_98 : decode cX12_init 98 = .ok (.iload_n 1, 1) := by decide +kernel
theorem dX12_init_99 : decode cX12_init 99 = .ok (.ldc 41, 2) := by decide +kernel
theorem dX12_init_101 : decode cX12_init 101 = .ok (.iastore, 1) := by decide +kernel
theorem dX12_init_102 : decode cX12_init 102 = .ok (.iinc 1 1, 3) := by decide +kernel
theorem dX12_init_105 : decode cX12_init 105 = .ok (.goto (-17), 3) := by decide +kernel
theorem dX12_init_108 : decode cX12_init 108 = .ok (.return_, 1) := by decide +kernel
theorem dX12_in_0 : decode cX12_in 0 = .ok (.iload_n 0, 1) := by decide +kernel
theorem dX12_in_1 : decode cX12_in 1 = .ok (.iload_n 1, 1) := by decide +kernel
theorem dX12_in_2 : decode cX12_in 2 = .ok (.if_icmp .lt 12, 3) := by decide +kernel
theorem dX12_in_5 : decode cX12_in 5 = .ok (.iload_n 0, 1) := by decide +kernel
theorem dX12_in_6 : decode cX12_in 6 = .ok (.iload_n 2, 1) := by decide +kernel
theorem dX12_in_7 : decode cX12_in 7 = .ok (.if_icmp .gt 7, 3) := by decide +kernel
theorem dX12_in_10 : decode cX12_in 10 = .ok (.iconst 1, 1) := by decide +kernel
theorem dX12_in_11 : decode cX12_in 11 = .ok (.goto 4, 3) := by decide +kernel
theorem dX12_in_14 : decode cX12_in 14 = .ok (.iconst 0, 1) := by decide +kernel
theorem dX12_in_15 : decode cX12_in 15 = .ok (.ireturn, 1) := by decide +kernel
theorem dX12_has_0 : decode cX12_has 0 = .ok (.iload_n 0, 1) := by decide +kernel
theorem dX12_has_1 : decode cX12_has 1 = .ok (.iload_n 1, 1) := by decide +kernel
theorem dX12_has_2 : decode cX12_has 2 = .ok (.ishr, 1) := by decide +kernel
theorem dX12_has_3 : decode cX12_has 3 = .ok (.iconst 1, 1) := by decide +kernel
theorem dX12_has_4 : decode cX12_has 4 = .ok (.iand, 1) := by decide +kernel
theorem dX12_has_5 : decode cX12_has 5 = .ok (.iconst 1, 1) := by decide +kernel
theorem dX12_has_6 : decode cX12_has 6 = .ok (.if_icmp .ne 7, 3) := by decide +kernel
theorem dX12_has_9 : decode cX12_has 9 = .ok (.iconst 1, 1) := by decide +kernel
theorem dX12_has_10 : decode cX12_has 10 = .ok (.goto 4, 3) := by decide +kernel
theorem dX12_has_13 : decode cX12_has 13 = .ok (.iconst 0, 1) := by decide +kernel
theorem dX12_has_14 : decode cX12_has 14 = .ok (.ireturn, 1) := by decide +kernel
theorem dX12_found_0 : decode cX12_found 0 = .ok (.aload_n 0, 1) := by decide +kernel
theorem dX12_found_1 : decode cX12_found 1 = .ok (.iload_n 1, 1) := by decide +kernel
theorem dX12_found_2 : decode cX12_found 2 = .ok (.putfield 42, 3) := by decide +kernel
theorem dX12_found_5 : decode cX12_found 5 = .ok (.ldc 46, 2) := by decide +kernel
theorem dX12_found_7 : decode cX12_found 7 = .ok (.iload_n 1, 1) := by decide +kernel
theorem dX12_found_8 : decode cX12_found 8 = .ok (.isub, 1) := by decide +kernel
theorem dX12_found_9 : decode cX12_found 9 = .ok (.ireturn, 1) := by decide +kernel
theorem dX12_well_0 : decode cX12_well 0 = .ok (.aload_n 0, 1) := by decide +kernel
theorem dX12_well_1 : decode cX12_well 1 = .ok (.iconst 0, 1) := by decide +kernel
theorem dX12_well_2 : decode cX12_well 2 = .ok (.putfield 42, 3) := by decide +kernel
theorem dX12_well_5 : decode cX12_well 5 = .ok (.iload_n 1, 1) := by decide +kernel
theorem dX12_well_6 : decode cX12_well 6 = .ok (.ireturn, 1) := by decide +kernel
theorem dX12_isRow_0 : decode cX12_isRow 0 = .ok (.iload_n 0, 1) := by decide +kernel
theorem dX12_isRow_1 : decode cX12_isRow 1 = .ok (.iconst 0, 1) := by decide +kernel
theorem dX12_isRow_2 : decode cX12_isRow 2 = .ok (.bipush 7, 2) := by decide +kernel
theorem dX12_isRow_4 : decode cX12_isRow 4 = .ok (.invokestatic 47, 3) := by decide +kernel
theorem dX12_isRow_7 : decode cX12_isRow 7 = .ok (.ireturn, 1) := by decide +kernel
theorem dX12_row_0 : decode cX12_row 0 = .ok (.iload_n 1, 1) := by decide +kernel
theorem dX12_row_1 : decode cX12_row 1 = .ok (.invokestatic 51, 3) := by decide +kernel
theorem dX12_row_4 : decode cX12_row 4 = .ok (.ifCond .eq 18, 3) := by decide +kernel
theorem dX12_row_7 : decode cX12_row 7 = .ok (.iload_n 2, 1) := by decide +kernel
theorem dX12_row_8 : decode cX12_row 8 = .ok (.iconst 0, 1) := by decide +kernel
theorem dX12_row_9 : decode cX12_row 9 = .ok (.iconst 2, 1) := by decide +kernel
theorem dX12_row_10 : decode cX12_row 10 = .ok (.invokestatic 47, 3) := by decide +kernel
theorem dX12_row_13 : decode cX12_row 13 = .ok (.ifCond .eq 9, 3) := by decide +kernel
theorem dX12_row_16 : decode cX12_row 16 = .ok (.iload_n 3, 1) := by decide +kernel
theorem dX12_row_17 : decode cX12_row 17 = .ok (.bipush 40, 2) := by decide +kernel
theorem dX12_row_19 : decode cX12_row 19 = .ok (.if_icmp .le 6, 3) := by decide +kernel
theorem dX12_row_22 : decode cX12_row 22 = .ok (.ldc 55, 2) := by decide +kernel
theorem dX12_row_24 : decode cX12_row 24 = .ok (.ireturn, 1) := by decide +kernel
theorem dX12_row_25 : decode cX12_row 25 = .ok (.iload_n 3, 1) := by decide +kernel
theorem dX12_row_26 : decode cX12_row 26 = .ok (.ifCond .ge 9, 3) := by decide +kernel
theorem dX12_row_29 : decode cX12_row 29 = .ok (.aload_n 0, 1) := by decide +kernel
theorem dX12_row_30 : decode cX12_row 30 = .ok (.iconst 4, 1) := by decide +kernel
theorem dX12_row_31 : decode cX12_row 31 = .ok (.invokevirtual 56, 3) := by decide +kernel
theorem dX12_row_34 : decode cX12_row 34 = .ok (.ireturn, 1) := by decide +kernel
theorem dX12_row_35 : decode cX12_row 35 = .ok (.aload_n 0, 1) := by decide +kernel
theorem dX12_row_36 : decode cX12_row 36 = .ok (.getfield 23, 3) := by decide +kernel
theorem dX12_row_39 : decode cX12_row 39 = .ok (.iload_n 1, 1) := by decide +kernel
theorem dX12_row_40 : decode cX12_row 40 = .ok (.iload_n 2, 1) := by decide +kernel
theorem dX12_row_41 : decode cX12_row 41 = .ok (.iastore, 1) := by decide +kernel
theorem dX12_row_42 : decode cX12_row 42 = .ok (.aload_n 0, 1) := by decide +kernel
theorem dX12_row_43 : decode cX12_row 43 = .ok (.getfield 26, 3) := by decide +kernel
theorem dX12_row_46 : decode cX12_row 46 = .ok (.iload_n 1, 1) := by decide +kernel
theorem dX12_row_47 : decode cX12_row 47 = .ok (.iload_n 3, 1) := by decide +kernel
theorem dX12_row_48 : decode cX12_row 48 = .ok (.iastore, 1) := by decide +kernel
theorem dX12_row_49 : decode cX12_row 49 = .ok (.iconst 0, 1) := by decide +kernel
theorem dX12_row_50 : decode cX12_row 50 = .ok (.istore 4, 2) := by decide +kernel
theorem dX12_row_52 : decode cX12_row 52 = .ok (.iload 4, 2) := by decide +kernel
theorem dX12_row_54 : decode cX12_row 54 = .ok (.bipush 40, 2) := by decide +kernel
theorem dX12_row_56 : decode cX12_row 56 = .ok (.if_icmp .ge 22, 3) := by decide +kernel
theorem dX12_row_59 : decode cX12_row 59 = .ok (.aload_n 0, 1) := by decide +kernel
theorem dX12_row_60 : decode cX12_row 60 = .ok (.getfield 29, 3) := by decide +kernel
theorem dX12_row_63 : decode cX12_row 63 = .ok (.bipush 40, 2) := by decide +kernel
theorem dX12_row_65 : decode cX12_row 65 = .ok (.iload_n 1, 1) := by decide +kernel
theorem dX12_row_66 : decode cX12_row 66 = .ok (.imul, 1) := by decide +kernel
theorem dX12_row_67 : decode cX12_row 67 = .ok (.iload 4, 2) := by decide +kernel
theorem dX12_row_69 : decode cX12_row 69 = .ok (.iadd, 1) := by decide +kernel
theorem dX12_row_70 : decode cX12_row 70 = .ok (.iconst 0, 1) := by decide +kernel
theorem dX12_row_71 : decode cX12_row 71 = .ok (.iastore, 1) := by decide +kernel
theorem dX12_row_72 : decode cX12_row 72 = .ok (.iinc 4 1, 3) := by decide +kernel
theorem dX12_row_75 : decode cX12_row 75 = .ok (.goto (-23), 3) := by decide +kernel
theorem dX12_row_78 : decode cX12_row 78 = .ok (.aload_n 0, 1) := by decide +kernel
theorem dX12_row_79 : decode cX12_row 79 = .ok (.iload_n 3, 1) := by decide +kernel
theorem dX12_row_80 : decode cX12_row 80 = .ok (.invokevirtual 60, 3) := by decide +kernel
theorem dX12_row_83 : decode cX12_row 83 = .ok (.ireturn, 1) := by decide +kernel
theorem dX12_set_0 : decode cX12_set 0 = .ok (.iload_n 1, 1) := by decide +kernel
theorem dX12_set_1 : decode cX12_set 1 = .ok (.invokestatic 51, 3) := by decide +kernel
theorem dX12_set_4 : decode cX12_set 4 = .ok (.ifCond .ne 6, 3) := by decide +kernel
theorem dX12_set_7 : decode cX12_set 7 = .ok (.ldc 55, 2) := by decide +kernel
theorem dX12_set_9 : decode cX12_set 9 = .ok (.ireturn, 1) := by decide +kernel
theorem dX12_set_10 : decode cX12_set 10 = .ok (.aload_n 0, 1) := by decide +kernel
theorem dX12_set_11 : decode cX12_set 11 = .ok (.getfield 23, 3) := by decide +kernel
theorem dX12_set_14 : decode cX12_set 14 = .ok (.iload_n 1, 1) := by decide +kernel
theorem dX12_set_15 : decode cX12_set 15 = .ok (.iaload, 1) := by decide +kernel
theorem dX12_set_16 : decode cX12_set 16 = .ok (.ldc 41, 2) := by decide +kernel
theorem dX12_set_18 : decode cX12_set 18 = .ok (.if_icmp .ne 9, 3) := by decide +kernel
theorem dX12_set_21 : decode cX12_set 21 = .ok (.aload_n 0, 1) := by decide +kernel
theorem dX12_set_22 : decode cX12_set 22 = .ok (.iconst 1, 1) := by decide +kernel
theorem dX12_set_23 : decode cX12_set 23 = .ok (.invokevirtual 56, 3) := by decide +kernel
theorem dX12_set_26 : decode cX12_set 26 = .ok (.ireturn, 1) := by decide +kernel
theorem dX12_set_27 : decode cX12_set 27 = .ok (.iload_n 2, 1) := by decide +kernel
theorem dX12_set_28 : decode cX12_set 28 = .ok (.iconst 0, 1) := by decide +kernel
theorem dX12_set_29 : decode cX12_set 29 = .ok (.aload_n 0, 1) := by decide +kernel
theorem dX12_set_30 : decode cX12_set 30 = .ok (.getfield 26, 3) := by decide +kernel
theorem dX12_set_33 : decode cX12_set 33 = .ok (.iload_n 1, 1) := by decide +kernel
theorem dX12_set_34 : decode cX12_set 34 = .ok (.iaload, 1) := by decide +kernel
theorem dX12_set_35 : decode cX12_set 35 = .ok (.iconst 1, 1) := by decide +kernel
theorem dX12_set_36 : decode cX12_set 36 = .ok (.isub, 1) := by decide +kernel
theorem dX12_set_37 : decode cX12_set 37 = .ok (.invokestatic 47, 3) := by decide +kernel
theorem dX12_set_40 : decode cX12_set 40 = .ok (.ifCond .ne 9, 3) := by decide +kernel
theorem dX12_set_43 : decode cX12_set 43 = .ok (.aload_n 0, 1) := by decide +kernel
theorem dX12_set_44 : decode cX12_set 44 = .ok (.iconst 2, 1) := by decide +kernel
theorem dX12_set_45 : decode cX12_set 45 = .ok (.invokevirtual 56, 3) := by decide +kernel
theorem dX12_set_48 : decode cX12_set 48 = .ok (.ireturn, 1) := by decide +kernel
theorem dX12_set_49 : decode cX12_set 49 = .ok (.aload_n 0, 1) := by decide +kernel
theorem dX12_set_50 : decode cX12_set 50 = .ok (.getfield 23, 3) := by decide +kernel
theorem dX12_set_53 : decode cX12_set 53 = .ok (.iload_n 1, 1) := by decide +kernel
theorem dX12_set_54 : decode cX12_set 54 = .ok (.iaload, 1) := by decide +kernel
theorem dX12_set_55 : decode cX12_set 55 = .ok (.ifCond .ne 8, 3) := by decide +kernel
theorem dX12_set_58 : decode cX12_set 58 = .ok (.iload_n 3, 1) := by decide +kernel
theorem dX12_set_59 : decode cX12_set 59 = .ok (.i2b, 1) := by decide +kernel
theorem dX12_set_60 : decode cX12_set 60 = .ok (.goto 19, 3) := by decide +kernel
theorem dX12_set_63 : decode cX12_set 63 = .ok (.aload_n 0, 1) := by decide +kernel
theorem dX12_set_64 : decode cX12_set 64 = .ok (.getfield 23, 3) := by decide +kernel
theorem dX12_set_67 : decode cX12_set 67 = .ok (.iload_n 1, 1) := by decide +kernel
theorem dX12_set_68 : decode cX12_set 68 = .ok (.iaload, 1) := by decide +kernel
theorem dX12_set_69 : decode cX12_set 69 = .ok (.iconst 1, 1) := by decide +kernel
theorem dX12_set_70 : decode cX12_set 70 = .ok (.if_icmp .ne 8, 3) := by decide +kernel
theorem dX12_set_73 : decode cX12_set 73 = .ok (.iload_n 3, 1) := by decide +kernel
theorem dX12_set_74 : decode cX12_set 74 = .ok (.i2s, 1) := by decide +kernel
theorem dX12_set_75 : decode cX12_set 75 = .ok (.goto 4, 3) := by decide +kernel
theorem dX12_set_78 : decode cX12_set 78 = .ok (.iload_n 3, 1) := by decide +kernel
theorem dX12_set_79 : decode cX12_set 79 = .ok (.istore 4, 2) := by decide +kernel
theorem dX12_set_81 : decode cX12_set 81 = .ok (.aload_n 0, 1) := by decide +kernel
theorem dX12_set_82 : decode cX12_set 82 = .ok (.getfield 29, 3) := by decide +kernel
theorem dX12_set_85 : decode cX12_set 85 = .ok (.bipush 40, 2) := by decide +kernel
theorem dX12_set_87 : decode cX12_set 87 = .ok (.iload_n 1, 1) := by decide +kernel
theorem dX12_set_88 : decode cX12_set 88 = .ok (.imul, 1) := by decide +kernel
theorem dX12_set_89 : decode cX12_set 89 = .ok (.iload_n 2, 1) := by decide +kernel
theorem dX12_set_90 : decode cX12_set 90 = .ok (.iadd, 1) := by decide +kernel
theorem dX12_set_91 : decode cX12_set 91 = .ok (.iload 4, 2) := by decide +kernel
theorem dX12_set_93 : decode cX12_set 93 = .ok (.iastore, 1) := by decide +kernel
theorem dX12_set_94 : decode cX12_set 94 = .ok (.aload_n 0, 1) := by decide +kernel
theorem dX12_set_95 : decode cX12_set 95 = .ok (.iload 4, 2) := by decide +kernel
theorem dX12_set_97 : decode cX12_set 97 = .ok (.invokevirtual 60, 3) := by decide +kernel
theorem dX12_set_100 : decode cX12_set 100 = .ok (.ireturn, 1) := by decide +kernel
theorem dX12_isSpan_0 : decode cX12_isSpan 0 = .ok (.iload_n 2, 1) := by decide +kernel
theorem dX12_isSpan_1 : decode cX12_isSpan 1 = .ok (.ifCond .lt 27, 3) := by decide +kernel
theorem dX12_isSpan_4 : decode cX12_isSpan 4 = .ok (.iload_n 3, 1) := by decide +kernel
theorem dX12_isSpan_5 : decode cX12_isSpan 5 = .ok (.ifCond .lt 23, 3) := by decide +kernel
theorem dX12_isSpan_8 : decode cX12_isSpan 8 = .ok (.iload_n 2, 1) := by decide +kernel
theorem dX12_isSpan_9 : decode cX12_isSpan 9 = .ok (.i2l, 1) := by decide +kernel
theorem dX12_isSpan_10 : decode cX12_isSpan 10 = .ok (.iload_n 3, 1) := by decide +kernel
theorem dX12_isSpan_11 : decode cX12_isSpan 11 = .ok (.i2l, 1) := by decide +kernel
theorem dX12_isSpan_12 : decode cX12_isSpan 12 = .ok (.ladd, 1) := by decide +kernel
theorem dX12_isSpan_13 : decode cX12_isSpan 13 = .ok (.aload_n 0, 1) := by decide +kernel
theorem dX12_isSpan_14 : decode cX12_isSpan 14 = .ok (.getfield 26, 3) := by decide +kernel
theorem dX12_isSpan_17 : decode cX12_isSpan 17 = .ok (.iload_n 1, 1) := by decide +kernel
theorem dX12_isSpan_18 : decode cX12_isSpan 18 = .ok (.iaload, 1) := by decide +kernel
theorem dX12_isSpan_19 : decode cX12_isSpan 19 = .ok (.i2l, 1) := by decide +kernel
theorem dX12_isSpan_20 : decode cX12_isSpan 20 = .ok (.lcmp, 1) := by decide +kernel
theorem dX12_isSpan_21 : decode cX12_isSpan 21 = .ok (.ifCond .gt 7, 3) := by decide +kernel
theorem dX12_isSpan_24 : decode cX12_isSpan 24 = .ok (.iconst 1, 1) := by decide +kernel
theorem dX12_isSpan_25 : decode cX12_isSpan 25 = .ok (.goto 4, 3) := by decide +kernel
theorem dX12_isSpan_28 : decode cX12_isSpan 28 = .ok (.iconst 0, 1) := by decide +kernel
theorem dX12_isSpan_29 : decode cX12_isSpan 29 = .ok (.ireturn, 1) := by decide +kernel
theorem dX12_copy_0 : decode cX12_copy 0 = .ok (.iload_n 1, 1) := by decide +kernel
theorem dX12_copy_1 : decode cX12_copy 1 = .ok (.invokestatic 51, 3) := by decide +kernel
theorem dX12_copy_4 : decode cX12_copy 4 = .ok (.ifCond .eq 10, 3) := by decide +kernel
theorem dX12_copy_7 : decode cX12_copy 7 = .ok (.iload_n 3, 1) := by decide +kernel
theorem dX12_copy_8 : decode cX12_copy 8 = .ok (.invokestatic 51, 3) := by decide +kernel
theorem dX12_copy_11 : decode cX12_copy 11 = .ok (.ifCond .ne 6, 3) := by decide +kernel
theorem dX12_copy_14 : decode cX12_copy 14 = .ok (.ldc 55, 2) := by decide +kernel
theorem dX12_copy_16 : decode cX12_copy 16 = .ok (.ireturn, 1) := by decide +kernel
theorem dX12_copy_17 : decode cX12_copy 17 = .ok (.aload_n 0, 1) := by decide +kernel
theorem dX12_copy_18 : decode cX12_copy 18 = .ok (.getfield 23, 3) := by decide +kernel
theorem dX12_copy_21 : decode cX12_copy 21 = .ok (.iload_n 1, 1) := by decide +kernel
theorem dX12_copy_22 : decode cX12_copy 22 = .ok (.iaload, 1) := by decide +kernel
theorem dX12_copy_23 : decode cX12_copy 23 = .ok (.ldc 41, 2) := by decide +kernel
theorem dX12_copy_25 : decode cX12_copy 25 = .ok (.if_icmp .eq 14, 3) := by decide +kernel
theorem dX12_copy_28 : decode cX12_copy 28 = .ok (.aload_n 0, 1) := by decide +kernel
theorem dX12_copy_29 : decode cX12_copy 29 = .ok (.getfield 23, 3) := by decide +kernel
theorem dX12_copy_32 : decode cX12_copy 32 = .ok (.iload_n 3, 1) := by decide +kernel
theorem dX12_copy_33 : decode cX12_copy 33 = .ok (.iaload, 1) := by decide +kernel
theorem dX12_copy_34 : decode cX12_copy 34 = .ok (.ldc 41, 2) := by decide +kernel
theorem dX12_copy_36 : decode cX12_copy 36 = .ok (.if_icmp .ne 9, 3) := by decide +kernel
theorem dX12_copy_39 : decode cX12_copy 39 = .ok (.aload_n 0, 1) := by decide +kernel
theorem dX12_copy_40 : decode cX12_copy 40 = .ok (.iconst 1, 1) := by decide +kernel
theorem dX12_copy_41 : decode cX12_copy 41 = .ok (.invokevirtual 56, 3) := by decide +kernel
theorem dX12_copy_44 : decode cX12_copy 44 = .ok (.ireturn, 1) := by decide +kernel
theorem dX12_copy_45 : decode cX12_copy 45 = .ok (.aload_n 0, 1) := by decide +kernel
theorem dX12_copy_46 : decode cX12_copy 46 = .ok (.getfield 23, 3) := by decide +kernel
theorem dX12_copy_49 : decode cX12_copy 49 = .ok (.iload_n 1, 1) := by decide +kernel
theorem dX12_copy_50 : decode cX12_copy 50 = .ok (.iaload, 1) := by decide +kernel
theorem dX12_copy_51 : decode cX12_copy 51 = .ok (.aload_n 0, 1) := by decide +kernel
theorem dX12_copy_52 : decode cX12_copy 52 = .ok (.getfield 23, 3) := by decide +kernel
theorem dX12_copy_55 : decode cX12_copy 55 = .ok (.iload_n 3, 1) := by decide +kernel
theorem dX12_copy_56 : decode cX12_copy 56 = .ok (.iaload, 1) := by decide +kernel
theorem dX12_copy_57 : decode cX12_copy 57 = .ok (.if_icmp .eq 9, 3) := by decide +kernel
theorem dX12_copy_60 : decode cX12_copy 60 = .ok (.aload_n 0, 1) := by decide +kernel
theorem dX12_copy_61 : decode cX12_copy 61 = .ok (.iconst 5, 1) := by decide +kernel
theorem dX12_copy_62 : decode cX12_copy 62 = .ok (.invokevirtual 56, 3) := by decide +kernel
theorem dX12_copy_65 : decode cX12_copy 65 = .ok (.ireturn, 1) := by decide +kernel
theorem dX12_copy_66 : decode cX12_copy 66 = .ok (.aload_n 0, 1) := by decide +kernel
theorem dX12_copy_67 : decode cX12_copy 67 = .ok (.iload_n 1, 1) := by decide +kernel
theorem dX12_copy_68 : decode cX12_copy 68 = .ok (.iload_n 2, 1) := by decide +kernel
theorem dX12_copy_69 : decode cX12_copy 69 = .ok (.iload 5, 2) := by decide +kernel
theorem dX12_copy_71 : decode cX12_copy 71 = .ok (.invokevirtual 63, 3) := by decide +kernel
theorem dX12_copy_74 : decode cX12_copy 74 = .ok (.ifCond .eq 15, 3) := by decide +kernel
theorem dX12_copy_77 : decode cX12_copy 77 = .ok (.aload_n 0, 1) := by decide +kernel
theorem dX12_copy_78 : decode cX12_copy 78 = .ok (.iload_n 3, 1) := by decide +kernel
theorem dX12_copy_79 : decode cX12_copy 79 = .ok (.iload 4, 2) := by decide +kernel
theorem dX12_copy_81 : decode cX12_copy 81 = .ok (.iload 5, 2) := by decide +kernel
theorem dX12_copy_83 : decode cX12_copy 83 = .ok (.invokevirtual 63, 3) := by decide +kernel
theorem dX12_copy_86 : decode cX12_copy 86 = .ok (.ifCond .ne 9, 3) := by decide +kernel
theorem dX12_copy_89 : decode cX12_copy 89 = .ok (.aload_n 0, 1) := by decide +kernel
theorem dX12_copy_90 : decode cX12_copy 90 = .ok (.iconst 2, 1) := by decide +kernel
theorem dX12_copy_91 : decode cX12_copy 91 = .ok (.invokevirtual 56, 3) := by decide +kernel
theorem dX12_copy_94 : decode cX12_copy 94 = .ok (.ireturn, 1) := by decide +kernel
theorem dX12_copy_95 : decode cX12_copy 95 = .ok (.iconst 0, 1) := by decide +kernel
theorem dX12_copy_96 : decode cX12_copy 96 = .ok (.istore 6, 2) := by decide +kernel
theorem dX12_copy_98 : decode cX12_copy 98 = .ok (.iload 6, 2) := by decide +kernel
theorem dX12_copy_100 : decode cX12_copy 100 = .ok (.iload 5, 2) := by decide +kernel
theorem dX12_copy_102 : decode cX12_copy 102 = .ok (.if_icmp .ge 58, 3) := by decide +kernel
theorem dX12_copy_105 : decode cX12_copy 105 = .ok (.iload_n 2, 1) := by decide +kernel
theorem dX12_copy_106 : decode cX12_copy 106 = .ok (.iload 4, 2) := by decide +kernel
theorem dX12_copy_108 : decode cX12_copy 108 = .ok (.if_icmp .le 8, 3) := by decide +kernel
theorem dX12_copy_111 : decode cX12_copy 111 = .ok (.iload 6, 2) := by decide +kernel
theorem dX12_copy_113 : decode cX12_copy 113 = .ok (.goto 10, 3) := by decide +kernel
theorem dX12_copy_116 : decode cX12_copy 116 = .ok (.iload 5, 2) := by decide +kernel
theorem dX12_copy_118 : decode cX12_copy 118 = .ok (.iconst 1, 1) := by decide +kernel
theorem dX12_copy_119 : decode cX12_copy 119 = .ok (.isub, 1) := by decide +kernel
theorem dX12_copy_120 : decode cX12_copy 120 = .ok (.iload 6, 2) := by decide +kernel
theorem dX12_copy_122 : decode cX12_copy 122 = .ok (.isub, 1) := by decide +kernel
theorem dX12_copy_123 : decode cX12_copy 123 = .ok (.istore 7, 2) := by decide +kernel
theorem dX12_copy_125 : decode cX12_copy 125 = .ok (.aload_n 0, 1) := by decide +kernel
theorem dX12_copy_126 : decode cX12_copy 126 = .ok (.getfield 29, 3) := by decide +kernel
theorem dX12_copy_129 : decode cX12_copy 129 = .ok (.bipush 40, 2) := by decide +kernel
theorem dX12_copy_131 : decode cX12_copy 131 = .ok (.iload_n 3, 1) := by decide +kernel
theorem dX12_copy_132 : decode cX12_copy 132 = .ok (.imul, 1) := by decide +kernel
theorem dX12_copy_133 : decode cX12_copy 133 = .ok (.iload 4, 2) := by decide +kernel
theorem dX12_copy_135 : decode cX12_copy 135 = .ok (.iadd, 1) := by decide +kernel
theorem dX12_copy_136 : decode cX12_copy 136 = .ok (.iload 7, 2) := by decide +kernel
theorem dX12_copy_138 : decode cX12_copy 138 = .ok (.iadd, 1) := by decide +kernel
theorem dX12_copy_139 : decode cX12_copy 139 = .ok (.aload_n 0, 1) := by decide +kernel
theorem dX12_copy_140 : decode cX12_copy 140 = .ok (.getfield 29, 3) := by decide +kernel
theorem dX12_copy_143 : decode cX12_copy 143 = .ok (.bipush 40, 2) := by decide +kernel
theorem dX12_copy_145 : decode cX12_copy 145 = .ok (.iload_n 1, 1) := by decide +kernel
theorem dX12_copy_146 : decode cX12_copy 146 = .ok (.imul, 1) := by decide +kernel
theorem dX12_copy_147 : decode cX12_copy 147 = .ok (.iload_n 2, 1) := by decide +kernel
theorem dX12_copy_148 : decode cX12_copy 148 = .ok (.iadd, 1) := by decide +kernel
theorem dX12_copy_149 : decode cX12_copy 149 = .ok (.iload 7, 2) := by decide +kernel
theorem dX12_copy_151 : decode cX12_copy 151 = .ok (.iadd, 1) := by decide +kernel
theorem dX12_copy_152 : decode cX12_copy 152 = .ok (.iaload, 1) := by decide +kernel
theorem dX12_copy_153 : decode cX12_copy 153 = .ok (.iastore, 1) := by decide +kernel
theorem dX12_copy_154 : decode cX12_copy 154 = .ok (.iinc 6 1, 3) := by decide +kernel
theorem dX12_copy_157 : decode cX12_copy 157 = .ok (.goto (-59), 3) := by decide +kernel
theorem dX12_copy_160 : decode cX12_copy 160 = .ok (.aload_n 0, 1) := by decide +kernel
theorem dX12_copy_161 : decode cX12_copy 161 = .ok (.iload 5, 2) := by decide +kernel
theorem dX12_copy_163 : decode cX12_copy 163 = .ok (.invokevirtual 60, 3) := by decide +kernel
theorem dX12_copy_166 : decode cX12_copy 166 = .ok (.ireturn, 1) := by decide +kernel
theorem dX12_drop_0 : decode cX12_drop 0 = .ok (.iload_n 1, 1) := by decide +kernel
theorem dX12_drop_1 : decode cX12_drop 1 = .ok (.invokestatic 51, 3) := by decide +kernel
theorem dX12_drop_4 : decode cX12_drop 4 = .ok (.ifCond .ne 6, 3) := by decide +kernel
theorem dX12_drop_7 : decode cX12_drop 7 = .ok (.ldc 55, 2) := by decide +kernel
theorem dX12_drop_9 : decode cX12_drop 9 = .ok (.ireturn, 1) := by decide +kernel
theorem dX12_drop_10 : decode cX12_drop 10 = .ok (.aload_n 0, 1) := by decide +kernel
theorem dX12_drop_11 : decode cX12_drop 11 = .ok (.getfield 23, 3) := by decide +kernel
theorem dX12_drop_14 : decode cX12_drop 14 = .ok (.iload_n 1, 1) := by decide +kernel
theorem dX12_drop_15 : decode cX12_drop 15 = .ok (.iaload, 1) := by decide +kernel
theorem dX12_drop_16 : decode cX12_drop 16 = .ok (.ldc 41, 2) := by decide +kernel
theorem dX12_drop_18 : decode cX12_drop 18 = .ok (.if_icmp .ne 9, 3) := by decide +kernel
theorem dX12_drop_21 : decode cX12_drop 21 = .ok (.aload_n 0, 1) := by decide +kernel
theorem dX12_drop_22 : decode cX12_drop 22 = .ok (.iconst 1, 1) := by decide +kernel
theorem dX12_drop_23 : decode cX12_drop 23 = .ok (.invokevirtual 56, 3) := by decide +kernel
theorem dX12_drop_26 : decode cX12_drop 26 = .ok (.ireturn, 1) := by decide +kernel
theorem dX12_drop_27 : decode cX12_drop 27 = .ok (.aload_n 0, 1) := by decide +kernel
theorem dX12_drop_28 : decode cX12_drop 28 = .ok (.getfield 23, 3) := by decide +kernel
theorem dX12_drop_31 : decode cX12_drop 31 = .ok (.iload_n 1, 1) := by decide +kernel
theorem dX12_drop_32 : decode cX12_drop 32 = .ok (.ldc 41, 2) := by decide +kernel
theorem dX12_drop_34 : decode cX12_drop 34 = .ok (.iastore, 1) := by decide +kernel
theorem dX12_drop_35 : decode cX12_drop 35 = .ok (.aload_n 0, 1) := by decide +kernel
theorem dX12_drop_36 : decode cX12_drop 36 = .ok (.aload_n 0, 1) := by decide +kernel
theorem dX12_drop_37 : decode cX12_drop 37 = .ok (.getfield 26, 3) := by decide +kernel
theorem dX12_drop_40 : decode cX12_drop 40 = .ok (.iload_n 1, 1) := by decide +kernel
theorem dX12_drop_41 : decode cX12_drop 41 = .ok (.iaload, 1) := by decide +kernel
theorem dX12_drop_42 : decode cX12_drop 42 = .ok (.invokevirtual 60, 3) := by decide +kernel
theorem dX12_drop_45 : decode cX12_drop 45 = .ok (.ireturn, 1) := by decide +kernel
theorem dX12_feed_0 : decode cX12_feed 0 = .ok (.iload_n 3, 1) := by decide +kernel
theorem dX12_feed_1 : decode cX12_feed 1 = .ok (.iconst 1, 1) := by decide +kernel
theorem dX12_feed_2 : decode cX12_feed 2 = .ok (.bipush 8, 2) := by decide +kernel
theorem dX12_feed_4 : decode cX12_feed 4 = .ok (.invokestatic 47, 3) := by decide +kernel
theorem dX12_feed_7 : decode cX12_feed 7 = .ok (.ifCond .ne 6, 3) := by decide +kernel
theorem dX12_feed_10 : decode cX12_feed 10 = .ok (.ldc 55, 2) := by decide +kernel
theorem dX12_feed_12 : decode cX12_feed 12 = .ok (.ireturn, 1) := by decide +kernel
theorem dX12_feed_13 : decode cX12_feed 13 = .ok (.aload_n 0, 1) := by decide +kernel
theorem dX12_feed_14 : decode cX12_feed 14 = .ok (.getfield 66, 3) := by decide +kernel
theorem dX12_feed_17 : decode cX12_feed 17 = .ok (.iload_n 3, 1) := by decide +kernel
theorem dX12_feed_18 : decode cX12_feed 18 = .ok (.iadd, 1) := by decide +kernel
theorem dX12_feed_19 : decode cX12_feed 19 = .ok (.sipush 400, 3) := by decide +kernel
theorem dX12_feed_22 : decode cX12_feed 22 = .ok (.if_icmp .le 6, 3) := by decide +kernel
theorem dX12_feed_25 : decode cX12_feed 25 = .ok (.ldc 69, 2) := by decide +kernel
theorem dX12_feed_27 : decode cX12_feed 27 = .ok (.ireturn, 1) := by decide +kernel
theorem dX12_feed_28 : decode cX12_feed 28 = .ok (.iload_n 3, 1) := by decide +kernel
theorem dX12_feed_29 : decode cX12_feed 29 = .ok (.iconst 1, 1) := by decide +kernel
theorem dX12_feed_30 : decode cX12_feed 30 = .ok (.isub, 1) := by decide +kernel
theorem dX12_feed_31 : decode cX12_feed 31 = .ok (.istore 4, 2) := by decide +kernel
theorem dX12_feed_33 : decode cX12_feed 33 = .ok (.iload 4, 2) := by decide +kernel
theorem dX12_feed_35 : decode cX12_feed 35 = .ok (.ifCond .lt 40, 3) := by decide +kernel
theorem dX12_feed_38 : decode cX12_feed 38 = .ok (.aload_n 0, 1) := by decide +kernel
theorem dX12_feed_39 : decode cX12_feed 39 = .ok (.getfield 32, 3) := by decide +kernel
theorem dX12_feed_42 : decode cX12_feed 42 = .ok (.aload_n 0, 1) := by decide +kernel
theorem dX12_feed_43 : decode cX12_feed 43 = .ok (.getfield 66, 3) := by decide +kernel
theorem dX12_feed_46 : decode cX12_feed 46 = .ok (.lload_n 1, 1) := by decide +kernel
theorem dX12_feed_47 : decode cX12_feed 47 = .ok (.bipush 8, 2) := by decide +kernel
theorem dX12_feed_49 : decode cX12_feed 49 = .ok (.iload 4, 2) := by decide +kernel
theorem dX12_feed_51 : decode cX12_feed 51 = .ok (.imul, 1) := by decide +kernel
theorem dX12_feed_52 : decode cX12_feed 52 = .ok (.lshr, 1) := by decide +kernel
theorem dX12_feed_53 : decode cX12_feed 53 = .ok (.ldc2_w 70, 3) := by decide +kernel
theorem dX12_feed_56 : decode cX12_feed 56 = .ok (.land, 1) := by decide +kernel
theorem dX12_feed_57 : decode cX12_feed 57 = .ok (.l2i, 1) := by decide +kernel
theorem dX12_feed_58 : decode cX12_feed 58 = .ok (.iastore, 1) := by decide +kernel
theorem dX12_feed_59 : decode cX12_feed 59 = .ok (.aload_n 0, 1) := by decide +kernel
theorem dX12_feed_60 : decode cX12_feed 60 = .ok (.dup, 1) := by decide +kernel
theorem dX12_feed_61 : decode cX12_feed 61 = .ok (.getfield 66, 3) := by decide +kernel
theorem dX12_feed_64 : decode cX12_feed 64 = .ok (.iconst 1, 1) := by decide +kernel
theorem dX12_feed_65 : decode cX12_feed 65 = .ok (.iadd, 1) := by decide +kernel
theorem dX12_feed_66 : decode cX12_feed 66 = .ok (.putfield 66, 3) := by decide +kernel
theorem dX12_feed_69 : decode cX12_feed 69 = .ok (.iinc 4 (-1), 3) := by decide +kernel
theorem dX12_feed_72 : decode cX12_feed 72 = .ok (.goto (-39), 3) := by decide +kernel
theorem dX12_feed_75 : decode cX12_feed 75 = .ok (.aload_n 0, 1) := by decide +kernel
theorem dX12_feed_76 : decode cX12_feed 76 = .ok (.getfield 66, 3) := by decide +kernel
theorem dX12_feed_79 : decode cX12_feed 79 = .ok (.ireturn, 1) := by decide +kernel
theorem dX12_byteAt_0 : decode cX12_byteAt 0 = .ok (.iload_n 1, 1) := by decide +kernel
theorem dX12_byteAt_1 : decode cX12_byteAt 1 = .ok (.aload_n 0, 1) := by decide +kernel
theorem dX12_byteAt_2 : decode cX12_byteAt 2 = .ok (.getfield 66, 3) := by decide +kernel
theorem dX12_byteAt_5 : decode cX12_byteAt 5 = .ok (.if_icmp .ge 12, 3) := by decide +kernel
theorem dX12_byteAt_8 : decode cX12_byteAt 8 = .ok (.aload_n 0, 1) := by decide +kernel
theorem dX12_byteAt_9 : decode cX12_byteAt 9 = .ok (.getfield 32, 3) := by decide +kernel
theorem dX12_byteAt_12 : decode cX12_byteAt 12 = .ok (.iload_n 1, 1) := by decide +kernel
theorem dX12_byteAt_13 : decode cX12_byteAt 13 = .ok (.iaload, 1) := by decide +kernel
theorem dX12_byteAt_14 : decode cX12_byteAt 14 = .ok (.goto 4, 3) := by decide +kernel
theorem dX12_byteAt_17 : decode cX12_byteAt 17 = .ok (.iconst (-1), 1) := by decide +kernel
theorem dX12_byteAt_18 : decode cX12_byteAt 18 = .ok (.ireturn, 1) := by decide +kernel
theorem dX12_next_0 : decode cX12_next 0 = .ok (.aload_n 0, 1) := by decide +kernel
theorem dX12_next_1 : decode cX12_next 1 = .ok (.aload_n 0, 1) := by decide +kernel
theorem dX12_next_2 : decode cX12_next 2 = .ok (.getfield 72, 3) := by decide +kernel
theorem dX12_next_5 : decode cX12_next 5 = .ok (.invokevirtual 75, 3) := by decide +kernel
theorem dX12_next_8 : decode cX12_next 8 = .ok (.bipush 32, 2) := by decide +kernel
theorem dX12_next_10 : decode cX12_next 10 = .ok (.if_icmp .eq 16, 3) := by decide +kernel
theorem dX12_next_13 : decode cX12_next 13 = .ok (.aload_n 0, 1) := by decide +kernel
theorem dX12_next_14 : decode cX12_next 14 = .ok (.aload_n 0, 1) := by decide +kernel
theorem dX12_next_15 : decode cX12_next 15 = .ok (.getfield 72, 3) := by decide +kernel
theorem dX12_next_18 : decode cX12_next 18 = .ok (.invokevirtual 75, 3) := by decide +kernel
theorem dX12_next_21 : decode cX12_next 21 = .ok (.bipush 10, 2) := by decide +kernel
theorem dX12_next_23 : decode cX12_next 23 = .ok (.if_icmp .ne 16, 3) := by decide +kernel
theorem dX12_next_26 : decode cX12_next 26 = .ok (.aload_n 0, 1) := by decide +kernel
theorem dX12_next_27 : decode cX12_next 27 = .ok (.dup, 1) := by decide +kernel
theorem dX12_next_28 : decode cX12_next 28 = .ok (.getfield 72, 3) := by decide +kernel
theorem dX12_next_31 : decode cX12_next 31 = .ok (.iconst 1, 1) := by decide +kernel
theorem dX12_next_32 : decode cX12_next 32 = .ok (.iadd, 1) := by decide +kernel
theorem dX12_next_33 : decode cX12_next 33 = .ok (.putfield 72, 3) := by decide +kernel
theorem dX12_next_36 : decode cX12_next 36 = .ok (.goto (-36), 3) := by decide +kernel
theorem dX12_next_39 : decode cX12_next 39 = .ok (.aload_n 0, 1) := by decide +kernel
theorem dX12_next_40 : decode cX12_next 40 = .ok (.aload_n 0, 1) := by decide +kernel
theorem dX12_next_41 : decode cX12_next 41 = .ok (.getfield 72, 3) := by decide +kernel
theorem dX12_next_44 : decode cX12_next 44 = .ok (.putfield 78, 3) := by decide +kernel
theorem dX12_next_47 : decode cX12_next 47 = .ok (.aload_n 0, 1) := by decide +kernel
theorem dX12_next_48 : decode cX12_next 48 = .ok (.aload_n 0, 1) := by decide +kernel
theorem dX12_next_49 : decode cX12_next 49 = .ok (.getfield 72, 3) := by decide +kernel
theorem dX12_next_52 : decode cX12_next 52 = .ok (.invokevirtual 75, 3) := by decide +kernel
theorem dX12_next_55 : decode cX12_next 55 = .ok (.istore_n 1, 1) := by decide +kernel
theorem dX12_next_56 : decode cX12_next 56 = .ok (.iload_n 1, 1) := by decide +kernel
theorem dX12_next_57 : decode cX12_next 57 = .ok (.ifCond .ge 11, 3) := by decide +kernel
theorem dX12_next_60 : decode cX12_next 60 = .ok (.aload_n 0, 1) := by decide +kernel
theorem dX12_next_61 : decode cX12_next 61 = .ok (.iconst 0, 1) := by decide +kernel
theorem dX12_next_62 : decode cX12_next 62 = .ok (.putfield 81, 3) := by decide +kernel
theorem dX12_next_65 : decode cX12_next 65 = .ok (.goto 234, 3) := by decide +kernel
theorem dX12_next_68 : decode cX12_next 68 = .ok (.iload_n 1, 1) := by decide +kernel
theorem dX12_next_69 : decode cX12_next 69 = .ok (.bipush 97, 2) := by decide +kernel
theorem dX12_next_71 : decode cX12_next 71 = .ok (.bipush 122, 2) := by decide +kernel
theorem dX12_next_73 : decode cX12_next 73 = .ok (.invokestatic 47, 3) := by decide +kernel
theorem dX12_next_76 : decode cX12_next 76 = .ok (.ifCond .eq 83, 3) := by decide +kernel
theorem dX12_next_79 : decode cX12_next 79 = .ok (.aload_n 0, 1) := by decide +kernel
theorem dX12_next_80 : decode cX12_next 80 = .ok (.iconst 1, 1) := by decide +kernel
theorem dX12_next_81 : decode cX12_next 81 = .ok (.putfield 81, 3) := by decide +kernel
theorem dX12_next_84 : decode cX12_next 84 = .ok (.aload_n 0, 1) := by decide +kernel
theorem dX12_next_85 : decode cX12_next 85 = .ok (.lconst 0, 1) := by decide +kernel
theorem dX12_next_86 : decode cX12_next 86 = .ok (.putfield 84, 3) := by decide +kernel
theorem dX12_next_89 : decode cX12_next 89 = .ok (.aload_n 0, 1) := by decide +kernel
theorem dX12_next_90 : decode cX12_next 90 = .ok (.aload_n 0, 1) := by decide +kernel
theorem dX12_next_91 : decode cX12_next 91 = .ok (.getfield 72, 3) := by decide +kernel
theorem dX12_next_94 : decode cX12_next 94 = .ok (.invokevirtual 75, 3) := by decide +kernel
theorem dX12_next_97 : decode cX12_next 97 = .ok (.bipush 97, 2) := by decide +kernel
theorem dX12_next_99 : decode cX12_next 99 = .ok (.bipush 122, 2) := by decide +kernel
theorem dX12_next_101 : decode cX12_next 101 = .ok (.invokestatic 47, 3) := by decide +kernel
theorem dX12_next_104 : decode cX12_next 104 = .ok (.ifCond .eq 195, 3) := by decide +kernel
theorem dX12_next_107 : decode cX12_next 107 = .ok (.aload_n 0, 1) := by decide +kernel
theorem dX12_next_108 : decode cX12_next 108 = .ok (.aload_n 0, 1) := by decide +kernel
theorem dX12_next_109 : decode cX12_next 109 = .ok (.getfield 72, 3) := by decide +kernel
theorem dX12_next_112 : decode cX12_next 112 = .ok (.aload_n 0, 1) := by decide +kernel
theorem dX12_next_113 : decode cX12_next 113 = .ok (.getfield 78, 3) := by decide +kernel
theorem dX12_next_116 : decode cX12_next 116 = .ok (.isub, 1) := by decide +kernel
theorem dX12_next_117 : decode cX12_next 117 = .ok (.bipush 8, 2) := by decide +kernel
theorem dX12_next_119 : decode cX12_next 119 = .ok (.if_icmp .ge 23, 3) := by decide +kernel
theorem dX12_next_122 : decode cX12_next 122 = .ok (.aload_n 0, 1) := by decide +kernel
theorem dX12_next_123 : decode cX12_next 123 = .ok (.getfield 84, 3) := by decide +kernel
theorem dX12_next_126 : decode cX12_next 126 = .ok (.bipush 8, 2) := by decide +kernel
theorem dX12_next_128 : decode cX12_next 128 = .ok (.lshl, 1) := by decide +kernel
theorem dX12_next_129 : decode cX12_next 129 = .ok (.aload_n 0, 1) := by decide +kernel
theorem dX12_next_130 : decode cX12_next 130 = .ok (.aload_n 0, 1) := by decide +kernel
theorem dX12_next_131 : decode cX12_next 131 = .ok (.getfield 72, 3) := by decide +kernel
theorem dX12_next_134 : decode cX12_next 134 = .ok (.invokevirtual 75, 3) := by decide +kernel
theorem dX12_next_137 : decode cX12_next 137 = .ok (.i2l, 1) := by decide +kernel
theorem dX12_next_138 : decode cX12_next 138 = .ok (.lor, 1) := by decide +kernel
theorem dX12_next_139 : decode cX12_next 139 = .ok (.goto 4, 3) := by decide +kernel
theorem dX12_next_142 : decode cX12_next 142 = .ok (.lconst 0, 1) := by decide +kernel
theorem dX12_next_143 : decode cX12_next 143 = .ok (.putfield 84, 3) := by decide +kernel
theorem dX12_next_146 : decode cX12_next 146 = .ok (.aload_n 0, 1) := by decide +kernel
theorem dX12_next_147 : decode cX12_next 147 = .ok (.dup, 1) := by decide +kernel
theorem dX12_next_148 : decode cX12_next 148 = .ok (.getfield 72, 3) := by decide +kernel
theorem dX12_next_151 : decode cX12_next 151 = .ok (.iconst 1, 1) := by decide +kernel
theorem dX12_next_152 : decode cX12_next 152 = .ok (.iadd, 1) := by decide +kernel
theorem dX12_next_153 : decode cX12_next 153 = .ok (.putfield 72, 3) := by decide +kernel
theorem dX12_next_156 : decode cX12_next 156 = .ok (.goto (-67), 3) := by decide +kernel
theorem dX12_next_159 : decode cX12_next 159 = .ok (.iload_n 1, 1) := by decide +kernel
theorem dX12_next_160 : decode cX12_next 160 = .ok (.bipush 48, 2) := by decide +kernel
theorem dX12_next_162 : decode cX12_next 162 = .ok (.bipush 57, 2) := by decide +kernel
theorem dX12_next_164 : decode cX12_next 164 = .ok (.invokestatic 47, 3) := by decide +kernel
theorem dX12_next_167 : decode cX12_next 167 = .ok (.ifCond .eq 107, 3) := by decide +kernel
theorem dX12_next_170 : decode cX12_next 170 = .ok (.aload_n 0, 1) := by decide +kernel
theorem dX12_next_171 : decode cX12_next 171 = .ok (.iconst 0, 1) := by decide +kernel
theorem dX12_next_172 : decode cX12_next 172 = .ok (.putfield 88, 3) := by decide +kernel
theorem dX12_next_175 : decode cX12_next 175 = .ok (.aload_n 0, 1) := by decide +kernel
theorem dX12_next_176 : decode cX12_next 176 = .ok (.aload_n 0, 1) := by decide +kernel
theorem dX12_next_177 : decode cX12_next 177 = .ok (.getfield 72, 3) := by decide +kernel
theorem dX12_next_180 : decode cX12_next 180 = .ok (.invokevirtual 75, 3) := by decide +kernel
theorem dX12_next_183 : decode cX12_next 183 = .ok (.bipush 48, 2) := by decide +kernel
theorem dX12_next_185 : decode cX12_next 185 = .ok (.bipush 57, 2) := by decide +kernel
theorem dX12_next_187 : decode cX12_next 187 = .ok (.invokestatic 47, 3) := by decide +kernel
theorem dX12_next_190 : decode cX12_next 190 = .ok (.ifCond .eq 59, 3) := by decide +kernel
theorem dX12_next_193 : decode cX12_next 193 = .ok (.aload_n 0, 1) := by decide +kernel
theorem dX12_next_194 : decode cX12_next 194 = .ok (.aload_n 0, 1) := by decide +kernel
theorem dX12_next_195 : decode cX12_next 195 = .ok (.getfield 72, 3) := by decide +kernel
theorem dX12_next_198 : decode cX12_next 198 = .ok (.aload_n 0, 1) := by decide +kernel
theorem dX12_next_199 : decode cX12_next 199 = .ok (.getfield 78, 3) := by decide +kernel
theorem dX12_next_202 : decode cX12_next 202 = .ok (.isub, 1) := by decide +kernel
theorem dX12_next_203 : decode cX12_next 203 = .ok (.iconst 3, 1) := by decide +kernel
theorem dX12_next_204 : decode cX12_next 204 = .ok (.if_icmp .ge 25, 3) := by decide +kernel
theorem dX12_next_207 : decode cX12_next 207 = .ok (.bipush 10, 2) := by decide +kernel
theorem dX12_next_209 : decode cX12_next 209 = .ok (.aload_n 0, 1) := by decide +kernel
theorem dX12_next_210 : decode cX12_next 210 = .ok (.getfield 88, 3) := by decide +kernel
theorem dX12_next_213 : decode cX12_next 213 = .ok (.imul, 1) := by decide +kernel
theorem dX12_next_214 : decode cX12_next 214 = .ok (.aload_n 0, 1) := by decide +kernel
theorem dX12_next_215 : decode cX12_next 215 = .ok (.aload_n 0, 1) := by decide +kernel
theorem dX12_next_216 : decode cX12_next 216 = .ok (.getfield 72, 3) := by decide +kernel
theorem dX12_next_219 : decode cX12_next 219 = .ok (.invokevirtual 75, 3) := by decide +kernel
theorem dX12_next_222 : decode cX12_next 222 = .ok (.iadd, 1) := by decide +kernel
theorem dX12_next_223 : decode cX12_next 223 = .ok (.bipush 48, 2) := by decide +kernel
theorem dX12_next_225 : decode cX12_next 225 = .ok (.isub, 1) := by decide +kernel
theorem dX12_next_226 : decode cX12_next 226 = .ok (.goto 7, 3) := by decide +kernel
theorem dX12_next_229 : decode cX12_next 229 = .ok (.aload_n 0, 1) := by decide +kernel
theorem dX12_next_230 : decode cX12_next 230 = .ok (.getfield 88, 3) := by decide +kernel
theorem dX12_next_233 : decode cX12_next 233 = .ok (.putfield 88, 3) := by decide +kernel
theorem dX12_next_236 : decode cX12_next 236 = .ok (.aload_n 0, 1) := by decide +kernel
theorem dX12_next_237 : decode cX12_next 237 = .ok (.dup, 1) := by decide +kernel
theorem dX12_next_238 : decode cX12_next 238 = .ok (.getfield 72, 3) := by decide +kernel
theorem dX12_next_241 : decode cX12_next 241 = .ok (.iconst 1, 1) := by decide +kernel
theorem dX12_next_242 : decode cX12_next 242 = .ok (.iadd, 1) := by decide +kernel
theorem dX12_next_243 : decode cX12_next 243 = .ok (.putfield 72, 3) := by decide +kernel
theorem dX12_next_246 : decode cX12_next 246 = .ok (.goto (-71), 3) := by decide +kernel
theorem dX12_next_249 : decode cX12_next 249 = .ok (.aload_n 0, 1) := by decide +kernel
theorem dX12_next_250 : decode cX12_next 250 = .ok (.aload_n 0, 1) := by decide +kernel
theorem dX12_next_251 : decode cX12_next 251 = .ok (.getfield 72, 3) := by decide +kernel
theorem dX12_next_254 : decode cX12_next 254 = .ok (.aload_n 0, 1) := by decide +kernel
theorem dX12_next_255 : decode cX12_next 255 = .ok (.getfield 78, 3) := by decide +kernel
theorem dX12_next_258 : decode cX12_next 258 = .ok (.isub, 1) := by decide +kernel
theorem dX12_next_259 : decode cX12_next 259 = .ok (.iconst 4, 1) := by decide +kernel
theorem dX12_next_260 : decode cX12_next 260 = .ok (.if_icmp .ge 7, 3) := by decide +kernel
theorem dX12_next_263 : decode cX12_next 263 = .ok (.iconst 2, 1) := by decide +kernel
theorem dX12_next_264 : decode cX12_next 264 = .ok (.goto 4, 3) := by decide +kernel
theorem dX12_next_267 : decode cX12_next 267 = .ok (.iconst 4, 1) := by decide +kernel
theorem dX12_next_268 : decode cX12_next 268 = .ok (.putfield 81, 3) := by decide +kernel
theorem dX12_next_271 : decode cX12_next 271 = .ok (.goto 28, 3) := by decide +kernel
theorem dX12_next_274 : decode cX12_next 274 = .ok (.aload_n 0, 1) := by decide +kernel
theorem dX12_next_275 : decode cX12_next 275 = .ok (.iload_n 1, 1) := by decide +kernel
theorem dX12_next_276 : decode cX12_next 276 = .ok (.bipush 59, 2) := by decide +kernel
theorem dX12_next_278 : decode cX12_next 278 = .ok (.if_icmp .ne 7, 3) := by decide +kernel
theorem dX12_next_281 : decode cX12_next 281 = .ok (.iconst 3, 1) := by decide +kernel
theorem dX12_next_282 : decode cX12_next 282 = .ok (.goto 4, 3) := by decide +kernel
theorem dX12_next_285 : decode cX12_next 285 = .ok (.iconst 4, 1) := by decide +kernel
theorem dX12_next_286 : decode cX12_next 286 = .ok (.putfield 81, 3) := by decide +kernel
theorem dX12_next_289 : decode cX12_next 289 = .ok (.aload_n 0, 1) := by decide +kernel
theorem dX12_next_290 : decode cX12_next 290 = .ok (.dup, 1) := by decide +kernel
theorem dX12_next_291 : decode cX12_next 291 = .ok (.getfield 72, 3) := by decide +kernel
theorem dX12_next_294 : decode cX12_next 294 = .ok (.iconst 1, 1) := by decide +kernel
theorem dX12_next_295 : decode cX12_next 295 = .ok (.iadd, 1) := by decide +kernel
theorem dX12_next_296 : decode cX12_next 296 = .ok (.putfield 72, 3) := by decide +kernel
theorem dX12_next_299 : decode cX12_next 299 = .ok (.return_, 1) := by decide +kernel
theorem dX12_isName_0 : decode cX12_isName 0 = .ok (.aload_n 0, 1) := by decide +kernel
theorem dX12_isName_1 : decode cX12_isName 1 = .ok (.getfield 81, 3) := by decide +kernel
theorem dX12_isName_4 : decode cX12_isName 4 = .ok (.iconst 1, 1) := by decide +kernel
theorem dX12_isName_5 : decode cX12_isName 5 = .ok (.if_icmp .ne 16, 3) := by decide +kernel
theorem dX12_isName_8 : decode cX12_isName 8 = .ok (.aload_n 0, 1) := by decide +kernel
theorem dX12_isName_9 : decode cX12_isName 9 = .ok (.getfield 84, 3) := by decide +kernel
theorem dX12_isName_12 : decode cX12_isName 12 = .ok (.lload_n 1, 1) := by decide +kernel
theorem dX12_isName_13 : decode cX12_isName 13 = .ok (.lcmp, 1) := by decide +kernel
theorem dX12_isName_14 : decode cX12_isName 14 = .ok (.ifCond .ne 7, 3) := by decide +kernel
theorem dX12_isName_17 : decode cX12_isName 17 = .ok (.iconst 1, 1) := by decide +kernel
theorem dX12_isName_18 : decode cX12_isName 18 = .ok (.goto 4, 3) := by decide +kernel
theorem dX12_isName_21 : decode cX12_isName 21 = .ok (.iconst 0, 1) := by decide +kernel
theorem dX12_isName_22 : decode cX12_isName 22 = .ok (.ireturn, 1) := by decide +kernel
theorem dX12_must_0 : decode cX12_must 0 = .ok (.aload_n 0, 1) := by decide +kernel
theorem dX12_must_1 : decode cX12_must 1 = .ok (.getfield 91, 3) := by decide +kernel
theorem dX12_must_4 : decode cX12_must 4 = .ok (.ifCond .ne 12, 3) := by decide +kernel
theorem dX12_must_7 : decode cX12_must 7 = .ok (.iload_n 1, 1) := by decide +kernel
theorem dX12_must_8 : decode cX12_must 8 = .ok (.ifCond .ne 8, 3) := by decide +kernel
theorem dX12_must_11 : decode cX12_must 11 = .ok (.aload_n 0, 1) := by decide +kernel
theorem dX12_must_12 : decode cX12_must 12 = .ok (.iload_n 2, 1) := by decide +kernel
theorem dX12_must_13 : decode cX12_must 13 = .ok (.putfield 91, 3) := by decide +kernel
theorem dX12_must_16 : decode cX12_must 16 = .ok (.return_, 1) := by decide +kernel
theorem dX12_goesOn_0 : decode cX12_goesOn 0 = .ok (.aload_n 0, 1) := by decide +kernel
theorem dX12_goesOn_1 : decode cX12_goesOn 1 = .ok (.getfield 91, 3) := by decide +kernel
theorem dX12_goesOn_4 : decode cX12_goesOn 4 = .ok (.ifCond .ne 7, 3) := by decide +kernel
theorem dX12_goesOn_7 : decode cX12_goesOn 7 = .ok (.aload_n 0, 1) := by decide +kernel
theorem dX12_goesOn_8 : decode cX12_goesOn 8 = .ok (.invokevirtual 94, 3) := by decide +kernel
theorem dX12_goesOn_11 : decode cX12_goesOn 11 = .ok (.return_, 1) := by decide +kernel
theorem dX12_readNumber_0 : decode cX12_readNumber 0 = .ok (.aload_n 0, 1) := by decide +kernel
theorem dX12_readNumber_1 : decode cX12_readNumber 1 = .ok (.aload_n 0, 1) := by decide +kernel
theorem dX12_readNumber_2 : decode cX12_readNumber 2 = .ok (.getfield 81, 3) := by decide +kernel
theorem dX12_readNumber_5 : decode cX12_readNumber 5 = .ok (.iconst 2, 1) := by decide +kernel
theorem dX12_readNumber_6 : decode cX12_readNumber 6 = .ok (.if_icmp .ne 7, 3) := by decide +kernel
theorem dX12_readNumber_9 : decode cX12_readNumber 9 = .ok (.iconst 1, 1) := by decide +kernel
theorem dX12_readNumber_10 : decode cX12_readNumber 10 = .ok (.goto 4, 3) := by decide +kernel
theorem dX12_readNumber_13 : decode cX12_readNumber 13 = .ok (.iconst 0, 1) := by decide +kernel
theorem dX12_readNumber_14 : decode cX12_readNumber 14 = .ok (.iconst 1, 1) := by decide +kernel
theorem dX12_readNumber_15 : decode cX12_readNumber 15 = .ok (.invokevirtual 97, 3) := by decide +kernel
theorem dX12_readNumber_18 : decode cX12_readNumber 18 = .ok (.aload_n 0, 1) := by decide +kernel
theorem dX12_readNumber_19 : decode cX12_readNumber 19 = .ok (.aload_n 0, 1) := by decide +kernel
theorem dX12_readNumber_20 : decode cX12_readNumber 20 = .ok (.getfield 88, 3) := by decide +kernel
theorem dX12_readNumber_23 : decode cX12_readNumber 23 = .ok (.iload_n 1, 1) := by decide +kernel
theorem dX12_readNumber_24 : decode cX12_readNumber 24 = .ok (.iload_n 2, 1) := by decide +kernel
theorem dX12_readNumber_25 : decode cX12_readNumber 25 = .ok (.invokestatic 47, 3) := by decide +kernel
theorem dX12_readNumber_28 : decode cX12_readNumber 28 = .ok (.ifCond .eq 15, 3) := by decide +kernel
theorem dX12_readNumber_31 : decode cX12_readNumber 31 = .ok (.aload_n 0, 1) := by decide +kernel
theorem dX12_readNumber_32 : decode cX12_readNumber 32 = .ok (.getfield 88, 3) := by decide +kernel
theorem dX12_readNumber_35 : decode cX12_readNumber 35 = .ok (.iload_n 3, 1) := by decide +kernel
theorem dX12_readNumber_36 : decode cX12_readNumber 36 = .ok (.if_icmp .eq 7, 3) := by decide +kernel
theorem dX12_readNumber_39 : decode cX12_readNumber 39 = .ok (.iconst 1, 1) := by decide +kernel
theorem dX12_readNumber_40 : decode cX12_readNumber 40 = .ok (.goto 4, 3) := by decide +kernel
theorem dX12_readNumber_43 : decode cX12_readNumber 43 = .ok (.iconst 0, 1) := by decide +kernel
theorem dX12_readNumber_44 : decode cX12_readNumber 44 = .ok (.iconst 2, 1) := by decide +kernel
theorem dX12_readNumber_45 : decode cX12_readNumber 45 = .ok (.invokevirtual 97, 3) := by decide +kernel
theorem dX12_readNumber_48 : decode cX12_readNumber 48 = .ok (.aload_n 0, 1) := by decide +kernel
theorem dX12_readNumber_49 : decode cX12_readNumber 49 = .ok (.getfield 88, 3) := by decide +kernel
theorem dX12_readNumber_52 : decode cX12_readNumber 52 = .ok (.istore 4, 2) := by decide +kernel
theorem dX12_readNumber_54 : decode cX12_readNumber 54 = .ok (.aload_n 0, 1) := by decide +kernel
theorem dX12_readNumber_55 : decode cX12_readNumber 55 = .ok (.invokevirtual 101, 3) := by decide +kernel
theorem dX12_readNumber_58 : decode cX12_readNumber 58 = .ok (.iload 4, 2) := by decide +kernel
theorem dX12_readNumber_60 : decode cX12_readNumber 60 = .ok (.ireturn, 1) := by decide +kernel
theorem dX12_readStop_0 : decode cX12_readStop 0 = .ok (.aload_n 0, 1) := by decide +kernel
theorem dX12_readStop_1 : decode cX12_readStop 1 = .ok (.aload_n 0, 1) := by decide +kernel
theorem dX12_readStop_2 : decode cX12_readStop 2 = .ok (.getfield 81, 3) := by decide +kernel
theorem dX12_readStop_5 : decode cX12_readStop 5 = .ok (.iconst 3, 1) := by decide +kernel
theorem dX12_readStop_6 : decode cX12_readStop 6 = .ok (.if_icmp .ne 7, 3) := by decide +kernel
theorem dX12_readStop_9 : decode cX12_readStop 9 = .ok (.iconst 1, 1) := by decide +kernel
theorem dX12_readStop_10 : decode cX12_readStop 10 = .ok (.goto 4, 3) := by decide +kernel
theorem dX12_readStop_13 : decode cX12_readStop 13 = .ok (.iconst 0, 1) := by decide +kernel
theorem dX12_readStop_14 : decode cX12_readStop 14 = .ok (.iconst 1, 1) := by decide +kernel
theorem dX12_readStop_15 : decode cX12_readStop 15 = .ok (.invokevirtual 97, 3) := by decide +kernel
theorem dX12_readStop_18 : decode cX12_readStop 18 = .ok (.aload_n 0, 1) := by decide +kernel
theorem dX12_readStop_19 : decode cX12_readStop 19 = .ok (.invokevirtual 101, 3) := by decide +kernel
theorem dX12_readStop_22 : decode cX12_readStop 22 = .ok (.return_, 1) := by decide +kernel
theorem dX12_sortNow_0 : decode cX12_sortNow 0 = .ok (.aload_n 0, 1) := by decide +kernel
theorem dX12_sortNow_1 : decode cX12_sortNow 1 = .ok (.ldc2_w 104, 3) := by decide +kernel
theorem dX12_sortNow_4 : decode cX12_sortNow 4 = .ok (.invokevirtual 106, 3) := by decide +kernel
theorem dX12_sortNow_7 : decode cX12_sortNow 7 = .ok (.ifCond .eq 7, 3) := by decide +kernel
theorem dX12_sortNow_10 : decode cX12_sortNow 10 = .ok (.iconst 1, 1) := by decide +kernel
theorem dX12_sortNow_11 : decode cX12_sortNow 11 = .ok (.goto 61, 3) := by decide +kernel
theorem dX12_sortNow_14 : decode cX12_sortNow 14 = .ok (.aload_n 0, 1) := by decide +kernel
theorem dX12_sortNow_15 : decode cX12_sortNow 15 = .ok (.ldc2_w 110, 3) := by decide +kernel
theorem dX12_sortNow_18 : decode cX12_sortNow 18 = .ok (.invokevirtual 106, 3) := by decide +kernel
theorem dX12_sortNow_21 : decode cX12_sortNow 21 = .ok (.ifCond .eq 7, 3) := by decide +kernel
theorem dX12_sortNow_24 : decode cX12_sortNow 24 = .ok (.iconst 2, 1) := by decide +kernel
theorem dX12_sortNow_25 : decode cX12_sortNow 25 = .ok (.goto 47, 3) := by decide +kernel
theorem dX12_sortNow_28 : decode cX12_sortNow 28 = .ok (.aload_n 0, 1) := by decide +kernel
theorem dX12_sortNow_29 : decode cX12_sortNow 29 = .ok (.ldc2_w 112, 3) := by decide +kernel
theorem dX12_sortNow_32 : decode cX12_sortNow 32 = .ok (.invokevirtual 106, 3) := by decide +kernel
theorem dX12_sortNow_35 : decode cX12_sortNow 35 = .ok (.ifCond .eq 7, 3) := by decide +kernel
theorem dX12_sortNow_38 : decode cX12_sortNow 38 = .ok (.iconst 3, 1) := by decide +kernel
theorem dX12_sortNow_39 : decode cX12_sortNow 39 = .ok (.goto 33, 3) := by decide +kernel
theorem dX12_sortNow_42 : decode cX12_sortNow 42 = .ok (.aload_n 0, 1) := by decide +kernel
theorem dX12_sortNow_43 : decode cX12_sortNow 43 = .ok (.ldc2_w 114, 3) := by decide +kernel
theorem dX12_sortNow_46 : decode cX12_sortNow 46 = .ok (.invokevirtual 106, 3) := by decide +kernel
theorem dX12_sortNow_49 : decode cX12_sortNow 49 = .ok (.ifCond .eq 7, 3) := by decide +kernel
theorem dX12_sortNow_52 : decode cX12_sortNow 52 = .ok (.iconst 4, 1) := by decide +kernel
theorem dX12_sortNow_53 : decode cX12_sortNow 53 = .ok (.goto 19, 3) := by decide +kernel
theorem dX12_sortNow_56 : decode cX12_sortNow 56 = .ok (.aload_n 0, 1) := by decide +kernel
theorem dX12_sortNow_57 : decode cX12_sortNow 57 = .ok (.ldc2_w 116, 3) := by decide +kernel
theorem dX12_sortNow_60 : decode cX12_sortNow 60 = .ok (.invokevirtual 106, 3) := by decide +kernel
theorem dX12_sortNow_63 : decode cX12_sortNow 63 = .ok (.ifCond .eq 7, 3) := by decide +kernel
theorem dX12_sortNow_66 : decode cX12_sortNow 66 = .ok (.iconst 5, 1) := by decide +kernel
theorem dX12_sortNow_67 : decode cX12_sortNow 67 = .ok (.goto 5, 3) := by decide +kernel
theorem dX12_sortNow_70 : decode cX12_sortNow 70 = .ok (.ldc 41, 2) := by decide +kernel
theorem dX12_sortNow_72 : decode cX12_sortNow 72 = .ok (.ireturn, 1) := by decide +kernel
theorem dX12_readSpot_0 : decode cX12_readSpot 0 = .ok (.aload_n 0, 1) := by decide +kernel
theorem dX12_readSpot_1 : decode cX12_readSpot 1 = .ok (.aload_n 0, 1) := by decide +kernel
theorem dX12_readSpot_2 : decode cX12_readSpot 2 = .ok (.ldc2_w 118, 3) := by decide +kernel
theorem dX12_readSpot_5 : decode cX12_readSpot 5 = .ok (.invokevirtual 106, 3) := by decide +kernel
theorem dX12_readSpot_8 : decode cX12_readSpot 8 = .ok (.iconst 1, 1) := by decide +kernel
theorem dX12_readSpot_9 : decode cX12_readSpot 9 = .ok (.invokevirtual 97, 3) := by decide +kernel
theorem dX12_readSpot_12 : decode cX12_readSpot 12 = .ok (.aload_n 0, 1) := by decide +kernel
theorem dX12_readSpot_13 : decode cX12_readSpot 13 = .ok (.aload_n 0, 1) := by decide +kernel
theorem dX12_readSpot_14 : decode cX12_readSpot 14 = .ok (.getfield 35, 3) := by decide +kernel
theorem dX12_readSpot_17 : decode cX12_readSpot 17 = .ok (.iconst 1, 1) := by decide +kernel
theorem dX12_readSpot_18 : decode cX12_readSpot 18 = .ok (.iaload, 1) := by decide +kernel
theorem dX12_readSpot_19 : decode cX12_readSpot 19 = .ok (.bipush 7, 2) := by decide +kernel
theorem dX12_readSpot_21 : decode cX12_readSpot 21 = .ok (.if_icmp .ge 7, 3) := by decide +kernel
theorem dX12_readSpot_24 : decode cX12_readSpot 24 = .ok (.iconst 1, 1) := by decide +kernel
theorem dX12_readSpot_25 : decode cX12_readSpot 25 = .ok (.goto 4, 3) := by decide +kernel
theorem dX12_readSpot_28 : decode cX12_readSpot 28 = .ok (.iconst 0, 1) := by decide +kernel
theorem dX12_readSpot_29 : decode cX12_readSpot 29 = .ok (.iconst 3, 1) := by decide +kernel
theorem dX12_readSpot_30 : decode cX12_readSpot 30 = .ok (.invokevirtual 97, 3) := by decide +kernel
theorem dX12_readSpot_33 : decode cX12_readSpot 33 = .ok (.aload_n 0, 1) := by decide +kernel
theorem dX12_readSpot_34 : decode cX12_readSpot 34 = .ok (.invokevirtual 101, 3) := by decide +kernel
theorem dX12_readSpot_37 : decode cX12_readSpot 37 = .ok (.aload_n 0, 1) := by decide +kernel
theorem dX12_readSpot_38 : decode cX12_readSpot 38 = .ok (.invokevirtual 120, 3) := by decide +kernel
theorem dX12_readSpot_41 : decode cX12_readSpot 41 = .ok (.istore_n 1, 1) := by decide +kernel
theorem dX12_readSpot_42 : decode cX12_readSpot 42 = .ok (.aload_n 0, 1) := by decide +kernel
theorem dX12_readSpot_43 : decode cX12_readSpot 43 = .ok (.iload_n 1, 1) := by decide +kernel
theorem dX12_readSpot_44 : decode cX12_readSpot 44 = .ok (.ldc 41, 2) := by decide +kernel
theorem dX12_readSpot_46 : decode cX12_readSpot 46 = .ok (.if_icmp .eq 7, 3) := by decide +kernel
theorem dX12_readSpot_49 : decode cX12_readSpot 49 = .ok (.iconst 1, 1) := by decide +kernel
theorem dX12_readSpot_50 : decode cX12_readSpot 50 = .ok (.goto 4, 3) := by decide +kernel
theorem dX12_readSpot_53 : decode cX12_readSpot 53 = .ok (.iconst 0, 1) := by decide +kernel
theorem dX12_readSpot_54 : decode cX12_readSpot 54 = .ok (.iconst 1, 1) := by decide +kernel
theorem dX12_readSpot_55 : decode cX12_readSpot 55 = .ok (.invokevirtual 97, 3) := by decide +kernel
theorem dX12_readSpot_58 : decode cX12_readSpot 58 = .ok (.aload_n 0, 1) := by decide +kernel
theorem dX12_readSpot_59 : decode cX12_readSpot 59 = .ok (.invokevirtual 101, 3) := by decide +kernel
theorem dX12_readSpot_62 : decode cX12_readSpot 62 = .ok (.aload_n 0, 1) := by decide +kernel
theorem dX12_readSpot_63 : decode cX12_readSpot 63 = .ok (.iconst 1, 1) := by decide +kernel
theorem dX12_readSpot_64 : decode cX12_readSpot 64 = .ok (.iconst 5, 1) := by decide +kernel
theorem dX12_readSpot_65 : decode cX12_readSpot 65 = .ok (.ldc 41, 2) := by decide +kernel
theorem dX12_readSpot_67 : decode cX12_readSpot 67 = .ok (.invokevirtual 124, 3) := by decide +kernel
theorem dX12_readSpot_70 : decode cX12_readSpot 70 = .ok (.istore_n 2, 1) := by decide +kernel
theorem dX12_readSpot_71 : decode cX12_readSpot 71 = .ok (.aload_n 0, 1) := by decide +kernel
theorem dX12_readSpot_72 : decode cX12_readSpot 72 = .ok (.iconst 0, 1) := by decide +kernel
theorem dX12_readSpot_73 : decode cX12_readSpot 73 = .ok (.bipush 99, 2) := by decide +kernel
theorem dX12_readSpot_75 : decode cX12_readSpot 75 = .ok (.ldc 41, 2) := by decide +kernel
theorem dX12_readSpot_77 : decode cX12_readSpot 77 = .ok (.invokevirtual 124, 3) := by decide +kernel
theorem dX12_readSpot_80 : decode cX12_readSpot 80 = .ok (.istore_n 3, 1) := by decide +kernel
theorem dX12_readSpot_81 : decode cX12_readSpot 81 = .ok (.aload_n 0, 1) := by decide +kernel
theorem dX12_readSpot_82 : decode cX12_readSpot 82 = .ok (.iconst 0, 1) := by decide +kernel
theorem dX12_readSpot_83 : decode cX12_readSpot 83 = .ok (.bipush 99, 2) := by decide +kernel
theorem dX12_readSpot_85 : decode cX12_readSpot 85 = .ok (.ldc 41, 2) := by decide +kernel
theorem dX12_readSpot_87 : decode cX12_readSpot 87 = .ok (.invokevirtual 124, 3) := by decide +kernel
theorem dX12_readSpot_90 : decode cX12_readSpot 90 = .ok (.istore 4, 2) := by decide +kernel
theorem dX12_readSpot_92 : decode cX12_readSpot 92 = .ok (.aload_n 0, 1) := by decide +kernel
theorem dX12_readSpot_93 : decode cX12_readSpot 93 = .ok (.invokevirtual 128, 3) := by decide +kernel
theorem dX12_readSpot_96 : decode cX12_readSpot 96 = .ok (.aload_n 0, 1) := by decide +kernel
theorem dX12_readSpot_97 : decode cX12_readSpot 97 = .ok (.getfield 91, 3) := by decide +kernel
theorem dX12_readSpot_100 : decode cX12_readSpot 100 = .ok (.ifCond .ne 77, 3) := by decide +kernel
theorem dX12_readSpot_103 : decode cX12_readSpot 103 = .ok (.aload_n 0, 1) := by decide +kernel
theorem dX12_readSpot_104 : decode cX12_readSpot 104 = .ok (.getfield 35, 3) := by decide +kernel
theorem dX12_readSpot_107 : decode cX12_readSpot 107 = .ok (.iconst 1, 1) := by decide +kernel
theorem dX12_readSpot_108 : decode cX12_readSpot 108 = .ok (.iaload, 1) := by decide +kernel
theorem dX12_readSpot_109 : decode cX12_readSpot 109 = .ok (.istore 5, 2) := by decide +kernel
theorem dX12_readSpot_111 : decode cX12_readSpot 111 = .ok (.aload_n 0, 1) := by decide +kernel
theorem dX12_readSpot_112 : decode cX12_readSpot 112 = .ok (.getfield 35, 3) := by decide +kernel
theorem dX12_readSpot_115 : decode cX12_readSpot 115 = .ok (.iconst 3, 1) := by decide +kernel
theorem dX12_readSpot_116 : decode cX12_readSpot 116 = .ok (.iload 5, 2) := by decide +kernel
theorem dX12_readSpot_118 : decode cX12_readSpot 118 = .ok (.iadd, 1) := by decide +kernel
theorem dX12_readSpot_119 : decode cX12_readSpot 119 = .ok (.iload_n 1, 1) := by decide +kernel
theorem dX12_readSpot_120 : decode cX12_readSpot 120 = .ok (.iastore, 1) := by decide +kernel
theorem dX12_readSpot_121 : decode cX12_readSpot 121 = .ok (.aload_n 0, 1) := by decide +kernel
theorem dX12_readSpot_122 : decode cX12_readSpot 122 = .ok (.getfield 35, 3) := by decide +kernel
theorem dX12_readSpot_125 : decode cX12_readSpot 125 = .ok (.bipush 10, 2) := by decide +kernel
theorem dX12_readSpot_127 : decode cX12_readSpot 127 = .ok (.iload 5, 2) := by decide +kernel
theorem dX12_readSpot_129 : decode cX12_readSpot 129 = .ok (.iadd, 1) := by decide +kernel
theorem dX12_readSpot_130 : decode cX12_readSpot 130 = .ok (.iload_n 2, 1) := by decide +kernel
theorem dX12_readSpot_131 : decode cX12_readSpot 131 = .ok (.iastore, 1) := by decide +kernel
theorem dX12_readSpot_132 : decode cX12_readSpot 132 = .ok (.aload_n 0, 1) := by decide +kernel
theorem dX12_readSpot_133 : decode cX12_readSpot 133 = .ok (.getfield 35, 3) := by decide +kernel
theorem dX12_readSpot_136 : decode cX12_readSpot 136 = .ok (.bipush 26, 2) := by decide +kernel
theorem dX12_readSpot_138 : decode cX12_readSpot 138 = .ok (.iload 5, 2) := by decide +kernel
theorem dX12_readSpot_140 : decode cX12_readSpot 140 = .ok (.iadd, 1) := by decide +kernel
theorem dX12_readSpot_141 : decode cX12_readSpot 141 = .ok (.iload_n 3, 1) := by decide +kernel
theorem dX12_readSpot_142 : decode cX12_readSpot 142 = .ok (.iastore, 1) := by decide +kernel
theorem dX12_readSpot_143 : decode cX12_readSpot 143 = .ok (.aload_n 0, 1) := by decide +kernel
theorem dX12_readSpot_144 : decode cX12_readSpot 144 = .ok (.getfield 35, 3) := by decide +kernel
theorem dX12_readSpot_147 : decode cX12_readSpot 147 = .ok (.bipush 33, 2) := by decide +kernel
theorem dX12_readSpot_149 : decode cX12_readSpot 149 = .ok (.iload 5, 2) := by decide +kernel
theorem dX12_readSpot_151 : decode cX12_readSpot 151 = .ok (.iadd, 1) := by decide +kernel
theorem dX12_readSpot_152 : decode cX12_readSpot 152 = .ok (.iload 5, 2) := by decide +kernel
theorem dX12_readSpot_154 : decode cX12_readSpot 154 = .ok (.iastore, 1) := by decide +kernel
theorem dX12_readSpot_155 : decode cX12_readSpot 155 = .ok (.aload_n 0, 1) := by decide +kernel
theorem dX12_readSpot_156 : decode cX12_readSpot 156 = .ok (.getfield 35, 3) := by decide +kernel
theorem dX12_readSpot_159 : decode cX12_readSpot 159 = .ok (.bipush 40, 2) := by decide +kernel
theorem dX12_readSpot_161 : decode cX12_readSpot 161 = .ok (.iload 5, 2) := by decide +kernel
theorem dX12_readSpot_163 : decode cX12_readSpot 163 = .ok (.iadd, 1) := by decide +kernel
theorem dX12_readSpot_164 : decode cX12_readSpot 164 = .ok (.iload 4, 2) := by decide +kernel
theorem dX12_readSpot_166 : decode cX12_readSpot 166 = .ok (.iastore, 1) := by decide +kernel
theorem dX12_readSpot_167 : decode cX12_readSpot 167 = .ok (.aload_n 0, 1) := by decide +kernel
theorem dX12_readSpot_168 : decode cX12_readSpot 168 = .ok (.getfield 35, 3) := by decide +kernel
theorem dX12_readSpot_171 : decode cX12_readSpot 171 = .ok (.iconst 1, 1) := by decide +kernel
theorem dX12_readSpot_172 : decode cX12_readSpot 172 = .ok (.dup2, 1) := by decide +kernel
theorem dX12_readSpot_173 : decode cX12_readSpot 173 = .ok (.iaload, 1) := by decide +kernel
theorem dX12_readSpot_174 : decode cX12_readSpot 174 = .ok (.iconst 1, 1) := by decide +kernel
theorem dX12_readSpot_175 : decode cX12_readSpot 175 = .ok (.iadd, 1) := by decide +kernel
theorem dX12_readSpot_176 : decode cX12_readSpot 176 = .ok (.iastore, 1) := by decide +kernel
theorem dX12_readSpot_177 : decode cX12_readSpot 177 = .ok (.return_, 1) := by decide +kernel
theorem dX12_readReader_0 : decode cX12_readReader 0 = .ok (.aload_n 0, 1) := by decide +kernel
theorem dX12_readReader_1 : decode cX12_readReader 1 = .ok (.aload_n 0, 1) := by decide +kernel
theorem dX12_readReader_2 : decode cX12_readReader 2 = .ok (.getfield 35, 3) := by decide +kernel
theorem dX12_readReader_5 : decode cX12_readReader 5 = .ok (.iconst 2, 1) := by decide +kernel
theorem dX12_readReader_6 : decode cX12_readReader 6 = .ok (.iaload, 1) := by decide +kernel
theorem dX12_readReader_7 : decode cX12_readReader 7 = .ok (.iconst 4, 1) := by decide +kernel
theorem dX12_readReader_8 : decode cX12_readReader 8 = .ok (.if_icmp .ge 7, 3) := by decide +kernel
theorem dX12_readReader_11 : decode cX12_readReader 11 = .ok (.iconst 1, 1) := by decide +kernel
theorem dX12_readReader_12 : decode cX12_readReader 12 = .ok (.goto 4, 3) := by decide +kernel
theorem dX12_readReader_15 : decode cX12_readReader 15 = .ok (.iconst 0, 1) := by decide +kernel
theorem dX12_readReader_16 : decode cX12_readReader 16 = .ok (.iconst 3, 1) := by decide +kernel
theorem dX12_readReader_17 : decode cX12_readReader 17 = .ok (.invokevirtual 97, 3) := by decide +kernel
theorem dX12_readReader_20 : decode cX12_readReader 20 = .ok (.aload_n 0, 1) := by decide +kernel
theorem dX12_readReader_21 : decode cX12_readReader 21 = .ok (.invokevirtual 101, 3) := by decide +kernel
theorem dX12_readReader_24 : decode cX12_readReader 24 = .ok (.aload_n 0, 1) := by decide +kernel
theorem dX12_readReader_25 : decode cX12_readReader 25 = .ok (.iconst 0, 1) := by decide +kernel
theorem dX12_readReader_26 : decode cX12_readReader 26 = .ok (.bipush 23, 2) := by decide +kernel
theorem dX12_readReader_28 : decode cX12_readReader 28 = .ok (.ldc 41, 2) := by decide +kernel
theorem dX12_readReader_30 : decode cX12_readReader 30 = .ok (.invokevirtual 124, 3) := by decide +kernel
theorem dX12_readReader_33 : decode cX12_readReader 33 = .ok (.istore_n 1, 1) := by decide +kernel
theorem dX12_readReader_34 : decode cX12_readReader 34 = .ok (.aload_n 0, 1) := by decide +kernel
theorem dX12_readReader_35 : decode cX12_readReader 35 = .ok (.iload_n 1, 1) := by decide +kernel
theorem dX12_readReader_36 : decode cX12_readReader 36 = .ok (.bipush 23, 2) := by decide +kernel
theorem dX12_readReader_38 : decode cX12_readReader 38 = .ok (.ldc 41, 2) := by decide +kernel
theorem dX12_readReader_40 : decode cX12_readReader 40 = .ok (.invokevirtual 124, 3) := by decide +kernel
theorem dX12_readReader_43 : decode cX12_readReader 43 = .ok (.istore_n 2, 1) := by decide +kernel
theorem dX12_readReader_44 : decode cX12_readReader 44 = .ok (.aload_n 0, 1) := by decide +kernel
theorem dX12_readReader_45 : decode cX12_readReader 45 = .ok (.invokevirtual 128, 3) := by decide +kernel
theorem dX12_readReader_48 : decode cX12_readReader 48 = .ok (.aload_n 0, 1) := by decide +kernel
theorem dX12_readReader_49 : decode cX12_readReader 49 = .ok (.getfield 91, 3) := by decide +kernel
theorem dX12_readReader_52 : decode cX12_readReader 52 = .ok (.ifCond .ne 43, 3) := by decide +kernel
theorem dX12_readReader_55 : decode cX12_readReader 55 = .ok (.aload_n 0, 1) := by decide +kernel
theorem dX12_readReader_56 : decode cX12_readReader 56 = .ok (.getfield 35, 3) := by decide +kernel
theorem dX12_readReader_59 : decode cX12_readReader 59 = .ok (.bipush 17, 2) := by decide +kernel
theorem dX12_readReader_61 : decode cX12_readReader 61 = .ok (.aload_n 0, 1) := by decide +kernel
theorem dX12_readReader_62 : decode cX12_readReader 62 = .ok (.getfield 35, 3) := by decide +kernel
theorem dX12_readReader_65 : decode cX12_readReader 65 = .ok (.iconst 2, 1) := by decide +kernel
theorem dX12_readReader_66 : decode cX12_readReader 66 = .ok (.iaload, 1) := by decide +kernel
theorem dX12_readReader_67 : decode cX12_readReader 67 = .ok (.iadd, 1) := by decide +kernel
theorem dX12_readReader_68 : decode cX12_readReader 68 = .ok (.iload_n 1, 1) := by decide +kernel
theorem dX12_readReader_69 : decode cX12_readReader 69 = .ok (.iastore, 1) := by decide +kernel
theorem dX12_readReader_70 : decode cX12_readReader 70 = .ok (.aload_n 0, 1) := by decide +kernel
theorem dX12_readReader_71 : decode cX12_readReader 71 = .ok (.getfield 35, 3) := by decide +kernel
theorem dX12_readReader_74 : decode cX12_readReader 74 = .ok (.bipush 21, 2) := by decide +kernel
theorem dX12_readReader_76 : decode cX12_readReader 76 = .ok (.aload_n 0, 1) := by decide +kernel
theorem dX12_readReader_77 : decode cX12_readReader 77 = .ok (.getfield 35, 3) := by decide +kernel
theorem dX12_readReader_80 : decode cX12_readReader 80 = .ok (.iconst 2, 1) := by decide +kernel
theorem dX12_readReader_81 : decode cX12_readReader 81 = .ok (.iaload, 1) := by decide +kernel
theorem dX12_readReader_82 : decode cX12_readReader 82 = .ok (.iadd, 1) := by decide +kernel
theorem dX12_readReader_83 : decode cX12_readReader 83 = .ok (.iload_n 2, 1) := by decide +kernel
theorem dX12_readReader_84 : decode cX12_readReader 84 = .ok (.iastore, 1) := by decide +kernel
theorem dX12_readReader_85 : decode cX12_readReader 85 = .ok (.aload_n 0, 1) := by decide +kernel
theorem dX12_readReader_86 : decode cX12_readReader 86 = .ok (.getfield 35, 3) := by decide +kernel
theorem dX12_readReader_89 : decode cX12_readReader 89 = .ok (.iconst 2, 1) := by decide +kernel
theorem dX12_readReader_90 : decode cX12_readReader 90 = .ok (.dup2, 1) := by decide +kernel
theorem dX12_readReader_91 : decode cX12_readReader 91 = .ok (.iaload, 1) := by decide +kernel
theorem dX12_readReader_92 : decode cX12_readReader 92 = .ok (.iconst 1, 1) := by decide +kernel
theorem dX12_readReader_93 : decode cX12_readReader 93 = .ok (.iadd, 1) := by decide +kernel
theorem dX12_readReader_94 : decode cX12_readReader 94 = .ok (.iastore, 1) := by decide +kernel
theorem dX12_readReader_95 : decode cX12_readReader 95 = .ok (.return_, 1) := by decide +kernel
theorem dX12_library_0 : decode cX12_library 0 = .ok (.iconst 0, 1) := by decide +kernel
theorem dX12_library_1 : decode cX12_library 1 = .ok (.istore_n 1, 1) := by decide +kernel
theorem dX12_library_2 : decode cX12_library 2 = .ok (.iload_n 1, 1) := by decide +kernel
theorem dX12_library_3 : decode cX12_library 3 = .ok (.bipush 54, 2) := by decide +kernel
theorem dX12_library_5 : decode cX12_library 5 = .ok (.if_icmp .ge 16, 3) := by decide +kernel
theorem dX12_library_8 : decode cX12_library 8 = .ok (.aload_n 0, 1) := by decide +kernel
theorem dX12_library_9 : decode cX12_library 9 = .ok (.getfield 35, 3) := by decide +kernel
theorem dX12_library_12 : decode cX12_library 12 = .ok (.iload_n 1, 1) := by decide +kernel
theorem dX12_library_13 : decode cX12_library 13 = .ok (.iconst 0, 1) := by decide +kernel
theorem dX12_library_14 : decode cX12_library 14 = .ok (.iastore, 1) := by decide +kernel
theorem dX12_library_15 : decode cX12_library 15 = .ok (.iinc 1 1, 3) := by decide +kernel
theorem dX12_library_18 : decode cX12_library 18 = .ok (.goto (-16), 3) := by decide +kernel
theorem dX12_library_21 : decode cX12_library 21 = .ok (.aload_n 0, 1) := by decide +kernel
theorem dX12_library_22 : decode cX12_library 22 = .ok (.iconst 0, 1) := by decide +kernel
theorem dX12_library_23 : decode cX12_library 23 = .ok (.putfield 72, 3) := by decide +kernel
theorem dX12_library_26 : decode cX12_library 26 = .ok (.aload_n 0, 1) := by decide +kernel
theorem dX12_library_27 : decode cX12_library 27 = .ok (.iconst 0, 1) := by decide +kernel
theorem dX12_library_28 : decode cX12_library 28 = .ok (.putfield 91, 3) := by decide +kernel
theorem dX12_library_31 : decode cX12_library 31 = .ok (.aload_n 0, 1) := by decide +kernel
theorem dX12_library_32 : decode cX12_library 32 = .ok (.invokevirtual 94, 3) := by decide +kernel
theorem dX12_library_35 : decode cX12_library 35 = .ok (.aload_n 0, 1) := by decide +kernel
theorem dX12_library_36 : decode cX12_library 36 = .ok (.invokevirtual 131, 3) := by decide +kernel
theorem dX12_library_39 : decode cX12_library 39 = .ok (.aload_n 0, 1) := by decide +kernel
theorem dX12_library_40 : decode cX12_library 40 = .ok (.getfield 91, 3) := by decide +kernel
theorem dX12_library_43 : decode cX12_library 43 = .ok (.ifCond .ne 20, 3) := by decide +kernel
theorem dX12_library_46 : decode cX12_library 46 = .ok (.aload_n 0, 1) := by decide +kernel
theorem dX12_library_47 : decode cX12_library 47 = .ok (.ldc2_w 118, 3) := by decide +kernel
theorem dX12_library_50 : decode cX12_library 50 = .ok (.invokevirtual 106, 3) := by decide +kernel
theorem dX12_library_53 : decode cX12_library 53 = .ok (.ifCond .eq 10, 3) := by decide +kernel
theorem dX12_library_56 : decode cX12_library 56 = .ok (.aload_n 0, 1) := by decide +kernel
theorem dX12_library_57 : decode cX12_library 57 = .ok (.invokevirtual 131, 3) := by decide +kernel
theorem dX12_library_60 : decode cX12_library 60 = .ok (.goto (-21), 3) := by decide +kernel
theorem dX12_library_63 : decode cX12_library 63 = .ok (.aload_n 0, 1) := by decide +kernel
theorem dX12_library_64 : decode cX12_library 64 = .ok (.getfield 91, 3) := by decide +kernel
theorem dX12_library_67 : decode cX12_library 67 = .ok (.ifCond .ne 20, 3) := by decide +kernel
theorem dX12_library_70 : decode cX12_library 70 = .ok (.aload_n 0, 1) := by decide +kernel
theorem dX12_library_71 : decode cX12_library 71 = .ok (.ldc2_w 134, 3) := by decide +kernel
theorem dX12_library_74 : decode cX12_library 74 = .ok (.invokevirtual 106, 3) := by decide +kernel
theorem dX12_library_77 : decode cX12_library 77 = .ok (.ifCond .eq 10, 3) := by decide +kernel
theorem dX12_library_80 : decode cX12_library 80 = .ok (.aload_n 0, 1) := by decide +kernel
theorem dX12_library_81 : decode cX12_library 81 = .ok (.invokevirtual 136, 3) := by decide +kernel
theorem dX12_library_84 : decode cX12_library 84 = .ok (.goto (-21), 3) := by decide +kernel
theorem dX12_library_87 : decode cX12_library 87 = .ok (.aload_n 0, 1) := by decide +kernel
theorem dX12_library_88 : decode cX12_library 88 = .ok (.aload_n 0, 1) := by decide +kernel
theorem dX12_library_89 : decode cX12_library 89 = .ok (.getfield 81, 3) := by decide +kernel
theorem dX12_library_92 : decode cX12_library 92 = .ok (.ifCond .ne 7, 3) := by decide +kernel
theorem dX12_library_95 : decode cX12_library 95 = .ok (.iconst 1, 1) := by decide +kernel
theorem dX12_library_96 : decode cX12_library 96 = .ok (.goto 4, 3) := by decide +kernel
theorem dX12_library_99 : decode cX12_library 99 = .ok (.iconst 0, 1) := by decide +kernel
theorem dX12_library_100 : decode cX12_library 100 = .ok (.iconst 1, 1) := by decide +kernel
theorem dX12_library_101 : decode cX12_library 101 = .ok (.invokevirtual 97, 3) := by decide +kernel
theorem dX12_library_104 : decode cX12_library 104 = .ok (.aload_n 0, 1) := by decide +kernel
theorem dX12_library_105 : decode cX12_library 105 = .ok (.getfield 78, 3) := by decide +kernel
theorem dX12_library_108 : decode cX12_library 108 = .ok (.istore_n 1, 1) := by decide +kernel
theorem dX12_library_109 : decode cX12_library 109 = .ok (.aload_n 0, 1) := by decide +kernel
theorem dX12_library_110 : decode cX12_library 110 = .ok (.iconst 0, 1) := by decide +kernel
theorem dX12_library_111 : decode cX12_library 111 = .ok (.putfield 66, 3) := by decide +kernel
theorem dX12_library_114 : decode cX12_library 114 = .ok (.aload_n 0, 1) := by decide +kernel
theorem dX12_library_115 : decode cX12_library 115 = .ok (.getfield 91, 3) := by decide +kernel
theorem dX12_library_118 : decode cX12_library 118 = .ok (.ifCond .le 16, 3) := by decide +kernel
theorem dX12_library_121 : decode cX12_library 121 = .ok (.aload_n 0, 1) := by decide +kernel
theorem dX12_library_122 : decode cX12_library 122 = .ok (.aload_n 0, 1) := by decide +kernel
theorem dX12_library_123 : decode cX12_library 123 = .ok (.getfield 91, 3) := by decide +kernel
theorem dX12_library_126 : decode cX12_library 126 = .ok (.putfield 139, 3) := by decide +kernel
theorem dX12_library_129 : decode cX12_library 129 = .ok (.ldc 142, 2) := by decide +kernel
theorem dX12_library_131 : decode cX12_library 131 = .ok (.iload_n 1, 1) := by decide +kernel
theorem dX12_library_132 : decode cX12_library 132 = .ok (.isub, 1) := by decide +kernel
theorem dX12_library_133 : decode cX12_library 133 = .ok (.ireturn, 1) := by decide +kernel
theorem dX12_library_134 : decode cX12_library 134 = .ok (.iconst 0, 1) := by decide +kernel
theorem dX12_library_135 : decode cX12_library 135 = .ok (.istore_n 2, 1) := by decide +kernel
theorem dX12_library_136 : decode cX12_library 136 = .ok (.iload_n 2, 1) := by decide +kernel
theorem dX12_library_137 : decode cX12_library 137 = .ok (.bipush 54, 2) := by decide +kernel
theorem dX12_library_139 : decode cX12_library 139 = .ok (.if_icmp .ge 21, 3) := by decide +kernel
theorem dX12_library_142 : decode cX12_library 142 = .ok (.aload_n 0, 1) := by decide +kernel
theorem dX12_library_143 : decode cX12_library 143 = .ok (.getfield 7, 3) := by decide +kernel
theorem dX12_library_146 : decode cX12_library 146 = .ok (.iload_n 2, 1) := by decide +kernel
theorem dX12_library_147 : decode cX12_library 147 = .ok (.aload_n 0, 1) := by decide +kernel
theorem dX12_library_148 : decode cX12_library 148 = .ok (.getfield 35, 3) := by decide +kernel
theorem dX12_library_151 : decode cX12_library 151 = .ok (.iload_n 2, 1) := by decide +kernel
theorem dX12_library_152 : decode cX12_library 152 = .ok (.iaload, 1) := by decide +kernel
theorem dX12_library_153 : decode cX12_library 153 = .ok (.iastore, 1) := by decide +kernel
theorem dX12_library_154 : decode cX12_library 154 = .ok (.iinc 2 1, 3) := by decide +kernel
theorem dX12_library_157 : decode cX12_library 157 = .ok (.goto (-21), 3) := by decide +kernel
theorem dX12_library_160 : decode cX12_library 160 = .ok (.aload_n 0, 1) := by decide +kernel
theorem dX12_library_161 : decode cX12_library 161 = .ok (.getfield 7, 3) := by decide +kernel
theorem dX12_library_164 : decode cX12_library 164 = .ok (.iconst 0, 1) := by decide +kernel
theorem dX12_library_165 : decode cX12_library 165 = .ok (.iconst 1, 1) := by decide +kernel
theorem dX12_library_166 : decode cX12_library 166 = .ok (.iastore, 1) := by decide +kernel
theorem dX12_library_167 : decode cX12_library 167 = .ok (.aload_n 0, 1) := by decide +kernel
theorem dX12_library_168 : decode cX12_library 168 = .ok (.iconst 0, 1) := by decide +kernel
theorem dX12_library_169 : decode cX12_library 169 = .ok (.putfield 143, 3) := by decide +kernel
theorem dX12_library_172 : decode cX12_library 172 = .ok (.aload_n 0, 1) := by decide +kernel
theorem dX12_library_173 : decode cX12_library 173 = .ok (.getfield 7, 3) := by decide +kernel
theorem dX12_library_176 : decode cX12_library 176 = .ok (.iconst 1, 1) := by decide +kernel
theorem dX12_library_177 : decode cX12_library 177 = .ok (.iaload, 1) := by decide +kernel
theorem dX12_library_178 : decode cX12_library 178 = .ok (.ireturn, 1) := by decide +kernel
theorem dX12_fault_0 : decode cX12_fault 0 = .ok (.aload_n 0, 1) := by decide +kernel
theorem dX12_fault_1 : decode cX12_fault 1 = .ok (.getfield 139, 3) := by decide +kernel
theorem dX12_fault_4 : decode cX12_fault 4 = .ok (.ireturn, 1) := by decide +kernel
theorem dX12_isLibrary_0 : decode cX12_isLibrary 0 = .ok (.aload_n 0, 1) := by decide +kernel
theorem dX12_isLibrary_1 : decode cX12_isLibrary 1 = .ok (.getfield 7, 3) := by decide +kernel
theorem dX12_isLibrary_4 : decode cX12_isLibrary 4 = .ok (.iconst 0, 1) := by decide +kernel
theorem dX12_isLibrary_5 : decode cX12_isLibrary 5 = .ok (.iaload, 1) := by decide +kernel
theorem dX12_isLibrary_6 : decode cX12_isLibrary 6 = .ok (.iconst 1, 1) := by decide +kernel
theorem dX12_isLibrary_7 : decode cX12_isLibrary 7 = .ok (.if_icmp .ne 7, 3) := by decide +kernel
theorem dX12_isLibrary_10 : decode cX12_isLibrary 10 = .ok (.iconst 1, 1) := by decide +kernel
theorem dX12_isLibrary_11 : decode cX12_isLibrary 11 = .ok (.goto 4, 3) := by decide +kernel
theorem dX12_isLibrary_14 : decode cX12_isLibrary 14 = .ok (.iconst 0, 1) := by decide +kernel
theorem dX12_isLibrary_15 : decode cX12_isLibrary 15 = .ok (.ireturn, 1) := by decide +kernel
theorem dX12_isSpot_0 : decode cX12_isSpot 0 = .ok (.iload_n 1, 1) := by decide +kernel
theorem dX12_isSpot_1 : decode cX12_isSpot 1 = .ok (.iconst 0, 1) := by decide +kernel
theorem dX12_isSpot_2 : decode cX12_isSpot 2 = .ok (.aload_n 0, 1) := by decide +kernel
theorem dX12_isSpot_3 : decode cX12_isSpot 3 = .ok (.getfield 7, 3) := by decide +kernel
theorem dX12_isSpot_6 : decode cX12_isSpot 6 = .ok (.iconst 1, 1) := by decide +kernel
theorem dX12_isSpot_7 : decode cX12_isSpot 7 = .ok (.iaload, 1) := by decide +kernel
theorem dX12_isSpot_8 : decode cX12_isSpot 8 = .ok (.iconst 1, 1) := by decide +kernel
theorem dX12_isSpot_9 : decode cX12_isSpot 9 = .ok (.isub, 1) := by decide +kernel
theorem dX12_isSpot_10 : decode cX12_isSpot 10 = .ok (.invokestatic 47, 3) := by decide +kernel
theorem dX12_isSpot_13 : decode cX12_isSpot 13 = .ok (.ireturn, 1) := by decide +kernel
theorem dX12_isSet_0 : decode cX12_isSet 0 = .ok (.iload_n 1, 1) := by decide +kernel
theorem dX12_isSet_1 : decode cX12_isSet 1 = .ok (.iconst 0, 1) := by decide +kernel
theorem dX12_isSet_2 : decode cX12_isSet 2 = .ok (.iconst 1, 1) := by decide +kernel
theorem dX12_isSet_3 : decode cX12_isSet 3 = .ok (.aload_n 0, 1) := by decide +kernel
theorem dX12_isSet_4 : decode cX12_isSet 4 = .ok (.getfield 7, 3) := by decide +kernel
theorem dX12_isSet_7 : decode cX12_isSet 7 = .ok (.iconst 1, 1) := by decide +kernel
theorem dX12_isSet_8 : decode cX12_isSet 8 = .ok (.iaload, 1) := by decide +kernel
theorem dX12_isSet_9 : decode cX12_isSet 9 = .ok (.ishl, 1) := by decide +kernel
theorem dX12_isSet_10 : decode cX12_isSet 10 = .ok (.iconst 1, 1) := by decide +kernel
theorem dX12_isSet_11 : decode cX12_isSet 11 = .ok (.isub, 1) := by decide +kernel
theorem dX12_isSet_12 : decode cX12_isSet 12 = .ok (.invokestatic 47, 3) := by decide +kernel
theorem dX12_isSet_15 : decode cX12_isSet 15 = .ok (.ireturn, 1) := by decide +kernel
theorem dX12_fallBy_0 : decode cX12_fallBy 0 = .ok (.iload_n 2, 1) := by decide +kernel
theorem dX12_fallBy_1 : decode cX12_fallBy 1 = .ok (.bipush 24, 2) := by decide +kernel
theorem dX12_fallBy_3 : decode cX12_fallBy 3 = .ok (.irem, 1) := by decide +kernel
theorem dX12_fallBy_4 : decode cX12_fallBy 4 = .ok (.istore 4, 2) := by decide +kernel
theorem dX12_fallBy_6 : decode cX12_fallBy 6 = .ok (.aload_n 0, 1) := by decide +kernel
theorem dX12_fallBy_7 : decode cX12_fallBy 7 = .ok (.getfield 7, 3) := by decide +kernel
theorem dX12_fallBy_10 : decode cX12_fallBy 10 = .ok (.iconst 3, 1) := by decide +kernel
theorem dX12_fallBy_11 : decode cX12_fallBy 11 = .ok (.iload_n 1, 1) := by decide +kernel
theorem dX12_fallBy_12 : decode cX12_fallBy 12 = .ok (.iadd, 1) := by decide +kernel
theorem dX12_fallBy_13 : decode cX12_fallBy 13 = .ok (.iaload, 1) := by decide +kernel
theorem dX12_fallBy_14 : decode cX12_fallBy 14 = .ok (.tableswitch 66 3 5 #[46, 26, 44], 26) := by decide +kernel
theorem dX12_fallBy_40 : decode cX12_fallBy 40 = .ok (.iload_n 2, 1) := by decide +kernel
theorem dX12_fallBy_41 : decode cX12_fallBy 41 = .ok (.iconst 2, 1) := by decide +kernel
theorem dX12_fallBy_42 : decode cX12_fallBy 42 = .ok (.irem, 1) := by decide +kernel
theorem dX12_fallBy_43 : decode cX12_fallBy 43 = .ok (.ifCond .ne 9, 3) := by decide +kernel
theorem dX12_fallBy_46 : decode cX12_fallBy 46 = .ok (.iload_n 3, 1) := by decide +kernel
theorem dX12_fallBy_47 : decode cX12_fallBy 47 = .ok (.iconst 2, 1) := by decide +kernel
theorem dX12_fallBy_48 : decode cX12_fallBy 48 = .ok (.idiv, 1) := by decide +kernel
theorem dX12_fallBy_49 : decode cX12_fallBy 49 = .ok (.goto 8, 3) := by decide +kernel
theorem dX12_fallBy_52 : decode cX12_fallBy 52 = .ok (.iload_n 3, 1) := by decide +kernel
theorem dX12_fallBy_53 : decode cX12_fallBy 53 = .ok (.iload_n 3, 1) := by decide +kernel
theorem dX12_fallBy_54 : decode cX12_fallBy 54 = .ok (.iconst 2, 1) := by decide +kernel
theorem dX12_fallBy_55 : decode cX12_fallBy 55 = .ok (.idiv, 1) := by decide +kernel
theorem dX12_fallBy_56 : decode cX12_fallBy 56 = .ok (.isub, 1) := by decide +kernel
theorem dX12_fallBy_57 : decode cX12_fallBy 57 = .ok (.ireturn, 1) := by decide +kernel
theorem dX12_fallBy_58 : decode cX12_fallBy 58 = .ok (.iconst 0, 1) := by decide +kernel
theorem dX12_fallBy_59 : decode cX12_fallBy 59 = .ok (.ireturn, 1) := by decide +kernel
theorem dX12_fallBy_60 : decode cX12_fallBy 60 = .ok (.iload 4, 2) := by decide +kernel
theorem dX12_fallBy_62 : decode cX12_fallBy 62 = .ok (.bipush 6, 2) := by decide +kernel
theorem dX12_fallBy_64 : decode cX12_fallBy 64 = .ok (.bipush 17, 2) := by decide +kernel
theorem dX12_fallBy_66 : decode cX12_fallBy 66 = .ok (.invokestatic 47, 3) := by decide +kernel
theorem dX12_fallBy_69 : decode cX12_fallBy 69 = .ok (.ifCond .eq 7, 3) := by decide +kernel
theorem dX12_fallBy_72 : decode cX12_fallBy 72 = .ok (.iload_n 3, 1) := by decide +kernel
theorem dX12_fallBy_73 : decode cX12_fallBy 73 = .ok (.goto 6, 3) := by decide +kernel
theorem dX12_fallBy_76 : decode cX12_fallBy 76 = .ok (.iconst 2, 1) := by decide +kernel
theorem dX12_fallBy_77 : decode cX12_fallBy 77 = .ok (.iload_n 3, 1) := by decide +kernel
theorem dX12_fallBy_78 : decode cX12_fallBy 78 = .ok (.imul, 1) := by decide +kernel
theorem dX12_fallBy_79 : decode cX12_fallBy 79 = .ok (.ireturn, 1) := by decide +kernel
theorem dX12_fallBy_80 : decode cX12_fallBy 80 = .ok (.iload_n 3, 1) := by decide +kernel
theorem dX12_fallBy_81 : decode cX12_fallBy 81 = .ok (.ireturn, 1) := by decide +kernel
theorem dX12_fallOf_0 : decode cX12_fallOf 0 = .ok (.aload_n 0, 1) := by decide +kernel
theorem dX12_fallOf_1 : decode cX12_fallOf 1 = .ok (.iload_n 1, 1) := by decide +kernel
theorem dX12_fallOf_2 : decode cX12_fallOf 2 = .ok (.iload_n 2, 1) := by decide +kernel
theorem dX12_fallOf_3 : decode cX12_fallOf 3 = .ok (.aload_n 0, 1) := by decide +kernel
theorem dX12_fallOf_4 : decode cX12_fallOf 4 = .ok (.getfield 7, 3) := by decide +kernel
theorem dX12_fallOf_7 : decode cX12_fallOf 7 = .ok (.bipush 10, 2) := by decide +kernel
theorem dX12_fallOf_9 : decode cX12_fallOf 9 = .ok (.iload_n 1, 1) := by decide +kernel
theorem dX12_fallOf_10 : decode cX12_fallOf 10 = .ok (.iadd, 1) := by decide +kernel
theorem dX12_fallOf_11 : decode cX12_fallOf 11 = .ok (.iaload, 1) := by decide +kernel
theorem dX12_fallOf_12 : decode cX12_fallOf 12 = .ok (.invokevirtual 146, 3) := by decide +kernel
theorem dX12_fallOf_15 : decode cX12_fallOf 15 = .ok (.ireturn, 1) := by decide +kernel
theorem dX12_sunOf_0 : decode cX12_sunOf 0 = .ok (.aload_n 0, 1) := by decide +kernel
theorem dX12_sunOf_1 : decode cX12_sunOf 1 = .ok (.getfield 7, 3) := by decide +kernel
theorem dX12_sunOf_4 : decode cX12_sunOf 4 = .ok (.iconst 3, 1) := by decide +kernel
theorem dX12_sunOf_5 : decode cX12_sunOf 5 = .ok (.iload_n 1, 1) := by decide +kernel
theorem dX12_sunOf_6 : decode cX12_sunOf 6 = .ok (.iadd, 1) := by decide +kernel
theorem dX12_sunOf_7 : decode cX12_sunOf 7 = .ok (.iaload, 1) := by decide +kernel
theorem dX12_sunOf_8 : decode cX12_sunOf 8 = .ok (.iconst 2, 1) := by decide +kernel
theorem dX12_sunOf_9 : decode cX12_sunOf 9 = .ok (.if_icmp .ne 21, 3) := by decide +kernel
theorem dX12_sunOf_12 : decode cX12_sunOf 12 = .ok (.iload_n 2, 1) := by decide +kernel
theorem dX12_sunOf_13 : decode cX12_sunOf 13 = .ok (.bipush 24, 2) := by decide +kernel
theorem dX12_sunOf_15 : decode cX12_sunOf 15 = .ok (.irem, 1) := by decide +kernel
theorem dX12_sunOf_16 : decode cX12_sunOf 16 = .ok (.bipush 6, 2) := by decide +kernel
theorem dX12_sunOf_18 : decode cX12_sunOf 18 = .ok (.bipush 17, 2) := by decide +kernel
theorem dX12_sunOf_20 : decode cX12_sunOf 20 = .ok (.invokestatic 47, 3) := by decide +kernel
theorem dX12_sunOf_23 : decode cX12_sunOf 23 = .ok (.ifCond .eq 7, 3) := by decide +kernel
theorem dX12_sunOf_26 : decode cX12_sunOf 26 = .ok (.iconst 1, 1) := by decide +kernel
theorem dX12_sunOf_27 : decode cX12_sunOf 27 = .ok (.goto 4, 3) := by decide +kernel
theorem dX12_sunOf_30 : decode cX12_sunOf 30 = .ok (.iconst 0, 1) := by decide +kernel
theorem dX12_sunOf_31 : decode cX12_sunOf 31 = .ok (.ireturn, 1) := by decide +kernel
theorem dX12_atMost_0 : decode cX12_atMost 0 = .ok (.iload_n 0, 1) := by decide +kernel
theorem dX12_atMost_1 : decode cX12_atMost 1 = .ok (.sipush 9999, 3) := by decide +kernel
theorem dX12_atMost_4 : decode cX12_atMost 4 = .ok (.if_icmp .le 9, 3) := by decide +kernel
theorem dX12_atMost_7 : decode cX12_atMost 7 = .ok (.sipush 9999, 3) := by decide +kernel
theorem dX12_atMost_10 : decode cX12_atMost 10 = .ok (.goto 4, 3) := by decide +kernel
theorem dX12_atMost_13 : decode cX12_atMost 13 = .ok (.iload_n 0, 1) := by decide +kernel
theorem dX12_atMost_14 : decode cX12_atMost 14 = .ok (.ireturn, 1) := by decide +kernel
theorem dX12_remembers_0 : decode cX12_remembers 0 = .ok (.aload_n 0, 1) := by decide +kernel
theorem dX12_remembers_1 : decode cX12_remembers 1 = .ok (.getfield 143, 3) := by decide +kernel
theorem dX12_remembers_4 : decode cX12_remembers 4 = .ok (.bipush 24, 2) := by decide +kernel
theorem dX12_remembers_6 : decode cX12_remembers 6 = .ok (.if_icmp .ne 43, 3) := by decide +kernel
theorem dX12_remembers_9 : decode cX12_remembers 9 = .ok (.iconst 0, 1) := by decide +kernel
theorem dX12_remembers_10 : decode cX12_remembers 10 = .ok (.istore_n 1, 1) := by decide +kernel
theorem dX12_remembers_11 : decode cX12_remembers 11 = .ok (.iload_n 1, 1) := by decide +kernel
theorem dX12_remembers_12 : decode cX12_remembers 12 = .ok (.sipush 667, 3) := by decide +kernel
theorem dX12_remembers_15 : decode cX12_remembers 15 = .ok (.if_icmp .ge 24, 3) := by decide +kernel
theorem dX12_remembers_18 : decode cX12_remembers 18 = .ok (.aload_n 0, 1) := by decide +kernel
theorem dX12_remembers_19 : decode cX12_remembers 19 = .ok (.getfield 20, 3) := by decide +kernel
theorem dX12_remembers_22 : decode cX12_remembers 22 = .ok (.iload_n 1, 1) := by decide +kernel
theorem dX12_remembers_23 : decode cX12_remembers 23 = .ok (.aload_n 0, 1) := by decide +kernel
theorem dX12_remembers_24 : decode cX12_remembers 24 = .ok (.getfield 20, 3) := by decide +kernel
theorem dX12_remembers_27 : decode cX12_remembers 27 = .ok (.iload_n 1, 1) := by decide +kernel
theorem dX12_remembers_28 : decode cX12_remembers 28 = .ok (.bipush 29, 2) := by decide +kernel
theorem dX12_remembers_30 : decode cX12_remembers 30 = .ok (.iadd, 1) := by decide +kernel
theorem dX12_remembers_31 : decode cX12_remembers 31 = .ok (.iaload, 1) := by decide +kernel
theorem dX12_remembers_32 : decode cX12_remembers 32 = .ok (.iastore, 1) := by decide +kernel
theorem dX12_remembers_33 : decode cX12_remembers 33 = .ok (.iinc 1 1, 3) := by decide +kernel
theorem dX12_remembers_36 : decode cX12_remembers 36 = .ok (.goto (-25), 3) := by decide +kernel
theorem dX12_remembers_39 : decode cX12_remembers 39 = .ok (.aload_n 0, 1) := by decide +kernel
theorem dX12_remembers_40 : decode cX12_remembers 40 = .ok (.dup, 1) := by decide +kernel
theorem dX12_remembers_41 : decode cX12_remembers 41 = .ok (.getfield 143, 3) := by decide +kernel
theorem dX12_remembers_44 : decode cX12_remembers 44 = .ok (.iconst 1, 1) := by decide +kernel
theorem dX12_remembers_45 : decode cX12_remembers 45 = .ok (.isub, 1) := by decide +kernel
theorem dX12_remembers_46 : decode cX12_remembers 46 = .ok (.putfield 143, 3) := by decide +kernel
theorem dX12_remembers_49 : decode cX12_remembers 49 = .ok (.iconst 0, 1) := by decide +kernel
theorem dX12_remembers_50 : decode cX12_remembers 50 = .ok (.istore_n 1, 1) := by decide +kernel
theorem dX12_remembers_51 : decode cX12_remembers 51 = .ok (.iload_n 1, 1) := by decide +kernel
theorem dX12_remembers_52 : decode cX12_remembers 52 = .ok (.bipush 29, 2) := by decide +kernel
theorem dX12_remembers_54 : decode cX12_remembers 54 = .ok (.if_icmp .ge 32, 3) := by decide +kernel
theorem dX12_remembers_57 : decode cX12_remembers 57 = .ok (.aload_n 0, 1) := by decide +kernel
theorem dX12_remembers_58 : decode cX12_remembers 58 = .ok (.getfield 20, 3) := by decide +kernel
theorem dX12_remembers_61 : decode cX12_remembers 61 = .ok (.bipush 29, 2) := by decide +kernel
theorem dX12_remembers_63 : decode cX12_remembers 63 = .ok (.aload_n 0, 1) := by decide +kernel
theorem dX12_remembers_64 : decode cX12_remembers 64 = .ok (.getfield 143, 3) := by decide +kernel
theorem dX12_remembers_67 : decode cX12_remembers 67 = .ok (.imul, 1) := by decide +kernel
theorem dX12_remembers_68 : decode cX12_remembers 68 = .ok (.iload_n 1, 1) := by decide +kernel
theorem dX12_remembers_69 : decode cX12_remembers 69 = .ok (.iadd, 1) := by decide +kernel
theorem dX12_remembers_70 : decode cX12_remembers 70 = .ok (.aload_n 0, 1) := by decide +kernel
theorem dX12_remembers_71 : decode cX12_remembers 71 = .ok (.getfield 7, 3) := by decide +kernel
theorem dX12_remembers_74 : decode cX12_remembers 74 = .ok (.bipush 25, 2) := by decide +kernel
theorem dX12_remembers_76 : decode cX12_remembers 76 = .ok (.iload_n 1, 1) := by decide +kernel
theorem dX12_remembers_77 : decode cX12_remembers 77 = .ok (.iadd, 1) := by decide +kernel
theorem dX12_remembers_78 : decode cX12_remembers 78 = .ok (.iaload, 1) := by decide +kernel
theorem dX12_remembers_79 : decode cX12_remembers 79 = .ok (.iastore, 1) := by decide +kernel
theorem dX12_remembers_80 : decode cX12_remembers 80 = .ok (.iinc 1 1, 3) := by decide +kernel
theorem dX12_remembers_83 : decode cX12_remembers 83 = .ok (.goto (-32), 3) := by decide +kernel
theorem dX12_remembers_86 : decode cX12_remembers 86 = .ok (.aload_n 0, 1) := by decide +kernel
theorem dX12_remembers_87 : decode cX12_remembers 87 = .ok (.dup, 1) := by decide +kernel
theorem dX12_remembers_88 : decode cX12_remembers 88 = .ok (.getfield 143, 3) := by decide +kernel
theorem dX12_remembers_91 : decode cX12_remembers 91 = .ok (.iconst 1, 1) := by decide +kernel
theorem dX12_remembers_92 : decode cX12_remembers 92 = .ok (.iadd, 1) := by decide +kernel
theorem dX12_remembers_93 : decode cX12_remembers 93 = .ok (.putfield 143, 3) := by decide +kernel
theorem dX12_remembers_96 : decode cX12_remembers 96 = .ok (.return_, 1) := by decide +kernel
theorem dX12_hours_0 : decode cX12_hours 0 = .ok (.aload_n 0, 1) := by decide +kernel
theorem dX12_hours_1 : decode cX12_hours 1 = .ok (.invokevirtual 149, 3) := by decide +kernel
theorem dX12_hours_4 : decode cX12_hours 4 = .ok (.ifCond .ne 6, 3) := by decide +kernel
theorem dX12_hours_7 : decode cX12_hours 7 = .ok (.ldc 153, 2) := by decide +kernel
theorem dX12_hours_9 : decode cX12_hours 9 = .ok (.ireturn, 1) := by decide +kernel
theorem dX12_hours_10 : decode cX12_hours 10 = .ok (.iload_n 1, 1) := by decide +kernel
theorem dX12_hours_11 : decode cX12_hours 11 = .ok (.iconst 1, 1) := by decide +kernel
theorem dX12_hours_12 : decode cX12_hours 12 = .ok (.bipush 24, 2) := by decide +kernel
theorem dX12_hours_14 : decode cX12_hours 14 = .ok (.invokestatic 47, 3) := by decide +kernel
theorem dX12_hours_17 : decode cX12_hours 17 = .ok (.ifCond .ne 6, 3) := by decide +kernel
theorem dX12_hours_20 : decode cX12_hours 20 = .ok (.ldc 55, 2) := by decide +kernel
theorem dX12_hours_22 : decode cX12_hours 22 = .ok (.ireturn, 1) := by decide +kernel
theorem dX12_hours_23 : decode cX12_hours 23 = .ok (.aload_n 0, 1) := by decide +kernel
theorem dX12_hours_24 : decode cX12_hours 24 = .ok (.getfield 7, 3) := by decide +kernel
theorem dX12_hours_27 : decode cX12_hours 27 = .ok (.bipush 25, 2) := by decide +kernel
theorem dX12_hours_29 : decode cX12_hours 29 = .ok (.iaload, 1) := by decide +kernel
theorem dX12_hours_30 : decode cX12_hours 30 = .ok (.iload_n 1, 1) := by decide +kernel
theorem dX12_hours_31 : decode cX12_hours 31 = .ok (.iadd, 1) := by decide +kernel
theorem dX12_hours_32 : decode cX12_hours 32 = .ok (.sipush 999, 3) := by decide +kernel
theorem dX12_hours_35 : decode cX12_hours 35 = .ok (.if_icmp .le 6, 3) := by decide +kernel
theorem dX12_hours_38 : decode cX12_hours 38 = .ok (.ldc 69, 2) := by decide +kernel
theorem dX12_hours_40 : decode cX12_hours 40 = .ok (.ireturn, 1) := by decide +kernel
theorem dX12_hours_41 : decode cX12_hours 41 = .ok (.iconst 0, 1) := by decide +kernel
theorem dX12_hours_42 : decode cX12_hours 42 = .ok (.istore_n 2, 1) := by decide +kernel
theorem dX12_hours_43 : decode cX12_hours 43 = .ok (.iload_n 2, 1) := by decide +kernel
theorem dX12_hours_44 : decode cX12_hours 44 = .ok (.iload_n 1, 1) := by decide +kernel
theorem dX12_hours_45 : decode cX12_hours 45 = .ok (.if_icmp .ge 151, 3) := by decide +kernel
theorem dX12_hours_48 : decode cX12_hours 48 = .ok (.aload_n 0, 1) := by decide +kernel
theorem dX12_hours_49 : decode cX12_hours 49 = .ok (.invokevirtual 154, 3) := by decide +kernel
theorem dX12_hours_52 : decode cX12_hours 52 = .ok (.iconst 0, 1) := by decide +kernel
theorem dX12_hours_53 : decode cX12_hours 53 = .ok (.istore_n 3, 1) := by decide +kernel
theorem dX12_hours_54 : decode cX12_hours 54 = .ok (.iload_n 3, 1) := by decide +kernel
theorem dX12_hours_55 : decode cX12_hours 55 = .ok (.aload_n 0, 1) := by decide +kernel
theorem dX12_hours_56 : decode cX12_hours 56 = .ok (.getfield 7, 3) := by decide +kernel
theorem dX12_hours_59 : decode cX12_hours 59 = .ok (.iconst 1, 1) := by decide +kernel
theorem dX12_hours_60 : decode cX12_hours 60 = .ok (.iaload, 1) := by decide +kernel
theorem dX12_hours_61 : decode cX12_hours 61 = .ok (.if_icmp .ge 118, 3) := by decide +kernel
theorem dX12_hours_64 : decode cX12_hours 64 = .ok (.aload_n 0, 1) := by decide +kernel
theorem dX12_hours_65 : decode cX12_hours 65 = .ok (.getfield 7, 3) := by decide +kernel
theorem dX12_hours_68 : decode cX12_hours 68 = .ok (.bipush 33, 2) := by decide +kernel
theorem dX12_hours_70 : decode cX12_hours 70 = .ok (.iload_n 3, 1) := by decide +kernel
theorem dX12_hours_71 : decode cX12_hours 71 = .ok (.iadd, 1) := by decide +kernel
theorem dX12_hours_72 : decode cX12_hours 72 = .ok (.iaload, 1) := by decide +kernel
theorem dX12_hours_73 : decode cX12_hours 73 = .ok (.istore 4, 2) := by decide +kernel
theorem dX12_hours_75 : decode cX12_hours 75 = .ok (.aload_n 0, 1) := by decide +kernel
theorem dX12_hours_76 : decode cX12_hours 76 = .ok (.getfield 7, 3) := by decide +kernel
theorem dX12_hours_79 : decode cX12_hours 79 = .ok (.bipush 47, 2) := by decide +kernel
theorem dX12_hours_81 : decode cX12_hours 81 = .ok (.iload_n 3, 1) := by decide +kernel
theorem dX12_hours_82 : decode cX12_hours 82 = .ok (.iadd, 1) := by decide +kernel
theorem dX12_hours_83 : decode cX12_hours 83 = .ok (.iaload, 1) := by decide +kernel
theorem dX12_hours_84 : decode cX12_hours 84 = .ok (.ifCond .le 19, 3) := by decide +kernel
theorem dX12_hours_87 : decode cX12_hours 87 = .ok (.aload_n 0, 1) := by decide +kernel
theorem dX12_hours_88 : decode cX12_hours 88 = .ok (.getfield 7, 3) := by decide +kernel
theorem dX12_hours_91 : decode cX12_hours 91 = .ok (.bipush 47, 2) := by decide +kernel
theorem dX12_hours_93 : decode cX12_hours 93 = .ok (.iload_n 3, 1) := by decide +kernel
theorem dX12_hours_94 : decode cX12_hours 94 = .ok (.iadd, 1) := by decide +kernel
theorem dX12_hours_95 : decode cX12_hours 95 = .ok (.dup2, 1) := by decide +kernel
theorem dX12_hours_96 : decode cX12_hours 96 = .ok (.iaload, 1) := by decide +kernel
theorem dX12_hours_97 : decode cX12_hours 97 = .ok (.iconst 1, 1) := by decide +kernel
theorem dX12_hours_98 : decode cX12_hours 98 = .ok (.isub, 1) := by decide +kernel
theorem dX12_hours_99 : decode cX12_hours 99 = .ok (.iastore, 1) := by decide +kernel
theorem dX12_hours_100 : decode cX12_hours 100 = .ok (.goto 73, 3) := by decide +kernel
theorem dX12_hours_103 : decode cX12_hours 103 = .ok (.aload_n 0, 1) := by decide +kernel
theorem dX12_hours_104 : decode cX12_hours 104 = .ok (.getfield 7, 3) := by decide +kernel
theorem dX12_hours_107 : decode cX12_hours 107 = .ok (.bipush 26, 2) := by decide +kernel
theorem dX12_hours_109 : decode cX12_hours 109 = .ok (.iload_n 3, 1) := by decide +kernel
theorem dX12_hours_110 : decode cX12_hours 110 = .ok (.iadd, 1) := by decide +kernel
theorem dX12_hours_111 : decode cX12_hours 111 = .ok (.aload_n 0, 1) := by decide +kernel
theorem dX12_hours_112 : decode cX12_hours 112 = .ok (.getfield 7, 3) := by decide +kernel
theorem dX12_hours_115 : decode cX12_hours 115 = .ok (.bipush 26, 2) := by decide +kernel
theorem dX12_hours_117 : decode cX12_hours 117 = .ok (.iload_n 3, 1) := by decide +kernel
theorem dX12_hours_118 : decode cX12_hours 118 = .ok (.iadd, 1) := by decide +kernel
theorem dX12_hours_119 : decode cX12_hours 119 = .ok (.iaload, 1) := by decide +kernel
theorem dX12_hours_120 : decode cX12_hours 120 = .ok (.aload_n 0, 1) := by decide +kernel
theorem dX12_hours_121 : decode cX12_hours 121 = .ok (.iload_n 3, 1) := by decide +kernel
theorem dX12_hours_122 : decode cX12_hours 122 = .ok (.aload_n 0, 1) := by decide +kernel
theorem dX12_hours_123 : decode cX12_hours 123 = .ok (.getfield 7, 3) := by decide +kernel
theorem dX12_hours_126 : decode cX12_hours 126 = .ok (.bipush 25, 2) := by decide +kernel
theorem dX12_hours_128 : decode cX12_hours 128 = .ok (.iaload, 1) := by decide +kernel
theorem dX12_hours_129 : decode cX12_hours 129 = .ok (.invokevirtual 157, 3) := by decide +kernel
theorem dX12_hours_132 : decode cX12_hours 132 = .ok (.iadd, 1) := by decide +kernel
theorem dX12_hours_133 : decode cX12_hours 133 = .ok (.invokestatic 161, 3) := by decide +kernel
theorem dX12_hours_136 : decode cX12_hours 136 = .ok (.iastore, 1) := by decide +kernel
theorem dX12_hours_137 : decode cX12_hours 137 = .ok (.aload_n 0, 1) := by decide +kernel
theorem dX12_hours_138 : decode cX12_hours 138 = .ok (.getfield 7, 3) := by decide +kernel
theorem dX12_hours_141 : decode cX12_hours 141 = .ok (.bipush 40, 2) := by decide +kernel
theorem dX12_hours_143 : decode cX12_hours 143 = .ok (.iload 4, 2) := by decide +kernel
theorem dX12_hours_145 : decode cX12_hours 145 = .ok (.iadd, 1) := by decide +kernel
theorem dX12_hours_146 : decode cX12_hours 146 = .ok (.aload_n 0, 1) := by decide +kernel
theorem dX12_hours_147 : decode cX12_hours 147 = .ok (.getfield 7, 3) := by decide +kernel
theorem dX12_hours_150 : decode cX12_hours 150 = .ok (.bipush 40, 2) := by decide +kernel
theorem dX12_hours_152 : decode cX12_hours 152 = .ok (.iload 4, 2) := by decide +kernel
theorem dX12_hours_154 : decode cX12_hours 154 = .ok (.iadd, 1) := by decide +kernel
theorem dX12_hours_155 : decode cX12_hours 155 = .ok (.iaload, 1) := by decide +kernel
theorem dX12_hours_156 : decode cX12_hours 156 = .ok (.aload_n 0, 1) := by decide +kernel
theorem dX12_hours_157 : decode cX12_hours 157 = .ok (.iload_n 3, 1) := by decide +kernel
theorem dX12_hours_158 : decode cX12_hours 158 = .ok (.aload_n 0, 1) := by decide +kernel
theorem dX12_hours_159 : decode cX12_hours 159 = .ok (.getfield 7, 3) := by decide +kernel
theorem dX12_hours_162 : decode cX12_hours 162 = .ok (.bipush 25, 2) := by decide +kernel
theorem dX12_hours_164 : decode cX12_hours 164 = .ok (.iaload, 1) := by decide +kernel
theorem dX12_hours_165 : decode cX12_hours 165 = .ok (.invokevirtual 164, 3) := by decide +kernel
theorem dX12_hours_168 : decode cX12_hours 168 = .ok (.iadd, 1) := by decide +kernel
theorem dX12_hours_169 : decode cX12_hours 169 = .ok (.invokestatic 161, 3) := by decide +kernel
theorem dX12_hours_172 : decode cX12_hours 172 = .ok (.iastore, 1) := by decide +kernel
theorem dX12_hours_173 : decode cX12_hours 173 = .ok (.iinc 3 1, 3) := by decide +kernel
theorem dX12_hours_176 : decode cX12_hours 176 = .ok (.goto (-122), 3) := by decide +kernel
theorem dX12_hours_179 : decode cX12_hours 179 = .ok (.aload_n 0, 1) := by decide +kernel
theorem dX12_hours_180 : decode cX12_hours 180 = .ok (.getfield 7, 3) := by decide +kernel
theorem dX12_hours_183 : decode cX12_hours 183 = .ok (.bipush 25, 2) := by decide +kernel
theorem dX12_hours_185 : decode cX12_hours 185 = .ok (.dup2, 1) := by decide +kernel
theorem dX12_hours_186 : decode cX12_hours 186 = .ok (.iaload, 1) := by decide +kernel
theorem dX12_hours_187 : decode cX12_hours 187 = .ok (.iconst 1, 1) := by decide +kernel
theorem dX12_hours_188 : decode cX12_hours 188 = .ok (.iadd, 1) := by decide +kernel
theorem dX12_hours_189 : decode cX12_hours 189 = .ok (.iastore, 1) := by decide +kernel
theorem dX12_hours_190 : decode cX12_hours 190 = .ok (.iinc 2 1, 3) := by decide +kernel
theorem dX12_hours_193 : decode cX12_hours 193 = .ok (.goto (-150), 3) := by decide +kernel
theorem dX12_hours_196 : decode cX12_hours 196 = .ok (.aload_n 0, 1) := by decide +kernel
theorem dX12_hours_197 : decode cX12_hours 197 = .ok (.getfield 7, 3) := by decide +kernel
theorem dX12_hours_200 : decode cX12_hours 200 = .ok (.bipush 25, 2) := by decide +kernel
theorem dX12_hours_202 : decode cX12_hours 202 = .ok (.iaload, 1) := by decide +kernel
theorem dX12_hours_203 : decode cX12_hours 203 = .ok (.ireturn, 1) := by decide +kernel
theorem dX12_take_0 : decode cX12_take 0 = .ok (.aload_n 0, 1) := by decide +kernel
theorem dX12_take_1 : decode cX12_take 1 = .ok (.iload_n 1, 1) := by decide +kernel
theorem dX12_take_2 : decode cX12_take 2 = .ok (.invokevirtual 167, 3) := by decide +kernel
theorem dX12_take_5 : decode cX12_take 5 = .ok (.ifCond .eq 13, 3) := by decide +kernel
theorem dX12_take_8 : decode cX12_take 8 = .ok (.iload_n 2, 1) := by decide +kernel
theorem dX12_take_9 : decode cX12_take 9 = .ok (.iconst 1, 1) := by decide +kernel
theorem dX12_take_10 : decode cX12_take 10 = .ok (.bipush 48, 2) := by decide +kernel
theorem dX12_take_12 : decode cX12_take 12 = .ok (.invokestatic 47, 3) := by decide +kernel
theorem dX12_take_15 : decode cX12_take 15 = .ok (.ifCond .ne 6, 3) := by decide +kernel
theorem dX12_take_18 : decode cX12_take 18 = .ok (.ldc 55, 2) := by decide +kernel
theorem dX12_take_20 : decode cX12_take 20 = .ok (.ireturn, 1) := by decide +kernel
theorem dX12_take_21 : decode cX12_take 21 = .ok (.aload_n 0, 1) := by decide +kernel
theorem dX12_take_22 : decode cX12_take 22 = .ok (.getfield 7, 3) := by decide +kernel
theorem dX12_take_25 : decode cX12_take 25 = .ok (.bipush 47, 2) := by decide +kernel
theorem dX12_take_27 : decode cX12_take 27 = .ok (.iload_n 1, 1) := by decide +kernel
theorem dX12_take_28 : decode cX12_take 28 = .ok (.iadd, 1) := by decide +kernel
theorem dX12_take_29 : decode cX12_take 29 = .ok (.iaload, 1) := by decide +kernel
theorem dX12_take_30 : decode cX12_take 30 = .ok (.ifCond .le 6, 3) := by decide +kernel
theorem dX12_take_33 : decode cX12_take 33 = .ok (.ldc 153, 2) := by decide +kernel
theorem dX12_take_35 : decode cX12_take 35 = .ok (.ireturn, 1) := by decide +kernel
theorem dX12_take_36 : decode cX12_take 36 = .ok (.aload_n 0, 1) := by decide +kernel
theorem dX12_take_37 : decode cX12_take 37 = .ok (.invokevirtual 154, 3) := by decide +kernel
theorem dX12_take_40 : decode cX12_take 40 = .ok (.aload_n 0, 1) := by decide +kernel
theorem dX12_take_41 : decode cX12_take 41 = .ok (.getfield 7, 3) := by decide +kernel
theorem dX12_take_44 : decode cX12_take 44 = .ok (.bipush 26, 2) := by decide +kernel
theorem dX12_take_46 : decode cX12_take 46 = .ok (.iload_n 1, 1) := by decide +kernel
theorem dX12_take_47 : decode cX12_take 47 = .ok (.iadd, 1) := by decide +kernel
theorem dX12_take_48 : decode cX12_take 48 = .ok (.iaload, 1) := by decide +kernel
theorem dX12_take_49 : decode cX12_take 49 = .ok (.istore_n 3, 1) := by decide +kernel
theorem dX12_take_50 : decode cX12_take 50 = .ok (.aload_n 0, 1) := by decide +kernel
theorem dX12_take_51 : decode cX12_take 51 = .ok (.getfield 7, 3) := by decide +kernel
theorem dX12_take_54 : decode cX12_take 54 = .ok (.bipush 26, 2) := by decide +kernel
theorem dX12_take_56 : decode cX12_take 56 = .ok (.iload_n 1, 1) := by decide +kernel
theorem dX12_take_57 : decode cX12_take 57 = .ok (.iadd, 1) := by decide +kernel
theorem dX12_take_58 : decode cX12_take 58 = .ok (.iconst 0, 1) := by decide +kernel
theorem dX12_take_59 : decode cX12_take 59 = .ok (.iastore, 1) := by decide +kernel
theorem dX12_take_60 : decode cX12_take 60 = .ok (.aload_n 0, 1) := by decide +kernel
theorem dX12_take_61 : decode cX12_take 61 = .ok (.getfield 7, 3) := by decide +kernel
theorem dX12_take_64 : decode cX12_take 64 = .ok (.bipush 47, 2) := by decide +kernel
theorem dX12_take_66 : decode cX12_take 66 = .ok (.iload_n 1, 1) := by decide +kernel
theorem dX12_take_67 : decode cX12_take 67 = .ok (.iadd, 1) := by decide +kernel
theorem dX12_take_68 : decode cX12_take 68 = .ok (.iload_n 2, 1) := by decide +kernel
theorem dX12_take_69 : decode cX12_take 69 = .ok (.iastore, 1) := by decide +kernel
theorem dX12_take_70 : decode cX12_take 70 = .ok (.iload_n 3, 1) := by decide +kernel
theorem dX12_take_71 : decode cX12_take 71 = .ok (.ireturn, 1) := by decide +kernel
theorem dX12_change_0 : decode cX12_change 0 = .ok (.aload_n 0, 1) := by decide +kernel
theorem dX12_change_1 : decode cX12_change 1 = .ok (.iload_n 1, 1) := by decide +kernel
theorem dX12_change_2 : decode cX12_change 2 = .ok (.invokevirtual 167, 3) := by decide +kernel
theorem dX12_change_5 : decode cX12_change 5 = .ok (.ifCond .eq 16, 3) := by decide +kernel
theorem dX12_change_8 : decode cX12_change 8 = .ok (.aload_n 0, 1) := by decide +kernel
theorem dX12_change_9 : decode cX12_change 9 = .ok (.iload_n 2, 1) := by decide +kernel
theorem dX12_change_10 : decode cX12_change 10 = .ok (.invokevirtual 167, 3) := by decide +kernel
theorem dX12_change_13 : decode cX12_change 13 = .ok (.ifCond .eq 8, 3) := by decide +kernel
theorem dX12_change_16 : decode cX12_change 16 = .ok (.iload_n 1, 1) := by decide +kernel
theorem dX12_change_17 : decode cX12_change 17 = .ok (.iload_n 2, 1) := by decide +kernel
theorem dX12_change_18 : decode cX12_change 18 = .ok (.if_icmp .ne 6, 3) := by decide +kernel
theorem dX12_change_21 : decode cX12_change 21 = .ok (.ldc 55, 2) := by decide +kernel
theorem dX12_change_23 : decode cX12_change 23 = .ok (.ireturn, 1) := by decide +kernel
theorem dX12_change_24 : decode cX12_change 24 = .ok (.aload_n 0, 1) := by decide +kernel
theorem dX12_change_25 : decode cX12_change 25 = .ok (.getfield 7, 3) := by decide +kernel
theorem dX12_change_28 : decode cX12_change 28 = .ok (.bipush 47, 2) := by decide +kernel
theorem dX12_change_30 : decode cX12_change 30 = .ok (.iload_n 1, 1) := by decide +kernel
theorem dX12_change_31 : decode cX12_change 31 = .ok (.iadd, 1) := by decide +kernel
theorem dX12_change_32 : decode cX12_change 32 = .ok (.iaload, 1) := by decide +kernel
theorem dX12_change_33 : decode cX12_change 33 = .ok (.ifCond .gt 15, 3) := by decide +kernel
theorem dX12_change_36 : decode cX12_change 36 = .ok (.aload_n 0, 1) := by decide +kernel
theorem dX12_change_37 : decode cX12_change 37 = .ok (.getfield 7, 3) := by decide +kernel
theorem dX12_change_40 : decode cX12_change 40 = .ok (.bipush 47, 2) := by decide +kernel
theorem dX12_change_42 : decode cX12_change 42 = .ok (.iload_n 2, 1) := by decide +kernel
theorem dX12_change_43 : decode cX12_change 43 = .ok (.iadd, 1) := by decide +kernel
theorem dX12_change_44 : decode cX12_change 44 = .ok (.iaload, 1) := by decide +kernel
theorem dX12_change_45 : decode cX12_change 45 = .ok (.ifCond .le 6, 3) := by decide +kernel
theorem dX12_change_48 : decode cX12_change 48 = .ok (.ldc 153, 2) := by decide +kernel
theorem dX12_change_50 : decode cX12_change 50 = .ok (.ireturn, 1) := by decide +kernel
theorem dX12_change_51 : decode cX12_change 51 = .ok (.aload_n 0, 1) := by decide +kernel
theorem dX12_change_52 : decode cX12_change 52 = .ok (.invokevirtual 154, 3) := by decide +kernel
theorem dX12_change_55 : decode cX12_change 55 = .ok (.aload_n 0, 1) := by decide +kernel
theorem dX12_change_56 : decode cX12_change 56 = .ok (.getfield 7, 3) := by decide +kernel
theorem dX12_change_59 : decode cX12_change 59 = .ok (.bipush 33, 2) := by decide +kernel
theorem dX12_change_61 : decode cX12_change 61 = .ok (.iload_n 1, 1) := by decide +kernel
theorem dX12_change_62 : decode cX12_change 62 = .ok (.iadd, 1) := by decide +kernel
theorem dX12_change_63 : decode cX12_change 63 = .ok (.iaload, 1) := by decide +kernel
theorem dX12_change_64 : decode cX12_change 64 = .ok (.istore_n 3, 1) := by decide +kernel
theorem dX12_change_65 : decode cX12_change 65 = .ok (.aload_n 0, 1) := by decide +kernel
theorem dX12_change_66 : decode cX12_change 66 = .ok (.getfield 7, 3) := by decide +kernel
theorem dX12_change_69 : decode cX12_change 69 = .ok (.bipush 33, 2) := by decide +kernel
theorem dX12_change_71 : decode cX12_change 71 = .ok (.iload_n 1, 1) := by decide +kernel
theorem dX12_change_72 : decode cX12_change 72 = .ok (.iadd, 1) := by decide +kernel
theorem dX12_change_73 : decode cX12_change 73 = .ok (.aload_n 0, 1) := by decide +kernel
theorem dX12_change_74 : decode cX12_change 74 = .ok (.getfield 7, 3) := by decide +kernel
theorem dX12_change_77 : decode cX12_change 77 = .ok (.bipush 33, 2) := by decide +kernel
theorem dX12_change_79 : decode cX12_change 79 = .ok (.iload_n 2, 1) := by decide +kernel
theorem dX12_change_80 : decode cX12_change 80 = .ok (.iadd, 1) := by decide +kernel
theorem dX12_change_81 : decode cX12_change 81 = .ok (.iaload, 1) := by decide +kernel
theorem dX12_change_82 : decode cX12_change 82 = .ok (.iastore, 1) := by decide +kernel
theorem dX12_change_83 : decode cX12_change 83 = .ok (.aload_n 0, 1) := by decide +kernel
theorem dX12_change_84 : decode cX12_change 84 = .ok (.getfield 7, 3) := by decide +kernel
theorem dX12_change_87 : decode cX12_change 87 = .ok (.bipush 33, 2) := by decide +kernel
theorem dX12_change_89 : decode cX12_change 89 = .ok (.iload_n 2, 1) := by decide +kernel
theorem dX12_change_90 : decode cX12_change 90 = .ok (.iadd, 1) := by decide +kernel
theorem dX12_change_91 : decode cX12_change 91 = .ok (.iload_n 3, 1) := by decide +kernel
theorem dX12_change_92 : decode cX12_change 92 = .ok (.iastore, 1) := by decide +kernel
theorem dX12_change_93 : decode cX12_change 93 = .ok (.aload_n 0, 1) := by decide +kernel
theorem dX12_change_94 : decode cX12_change 94 = .ok (.getfield 7, 3) := by decide +kernel
theorem dX12_change_97 : decode cX12_change 97 = .ok (.bipush 26, 2) := by decide +kernel
theorem dX12_change_99 : decode cX12_change 99 = .ok (.iload_n 1, 1) := by decide +kernel
theorem dX12_change_100 : decode cX12_change 100 = .ok (.iadd, 1) := by decide +kernel
theorem dX12_change_101 : decode cX12_change 101 = .ok (.iconst 0, 1) := by decide +kernel
theorem dX12_change_102 : decode cX12_change 102 = .ok (.iastore, 1) := by decide +kernel
theorem dX12_change_103 : decode cX12_change 103 = .ok (.aload_n 0, 1) := by decide +kernel
theorem dX12_change_104 : decode cX12_change 104 = .ok (.getfield 7, 3) := by decide +kernel
theorem dX12_change_107 : decode cX12_change 107 = .ok (.bipush 26, 2) := by decide +kernel
theorem dX12_change_109 : decode cX12_change 109 = .ok (.iload_n 2, 1) := by decide +kernel
theorem dX12_change_110 : decode cX12_change 110 = .ok (.iadd, 1) := by decide +kernel
theorem dX12_change_111 : decode cX12_change 111 = .ok (.iconst 0, 1) := by decide +kernel
theorem dX12_change_112 : decode cX12_change 112 = .ok (.iastore, 1) := by decide +kernel
theorem dX12_change_113 : decode cX12_change 113 = .ok (.aload_n 0, 1) := by decide +kernel
theorem dX12_change_114 : decode cX12_change 114 = .ok (.getfield 7, 3) := by decide +kernel
theorem dX12_change_117 : decode cX12_change 117 = .ok (.bipush 33, 2) := by decide +kernel
theorem dX12_change_119 : decode cX12_change 119 = .ok (.iload_n 1, 1) := by decide +kernel
theorem dX12_change_120 : decode cX12_change 120 = .ok (.iadd, 1) := by decide +kernel
theorem dX12_change_121 : decode cX12_change 121 = .ok (.iaload, 1) := by decide +kernel
theorem dX12_change_122 : decode cX12_change 122 = .ok (.ireturn, 1) := by decide +kernel
theorem dX12_dusts_0 : decode cX12_dusts 0 = .ok (.aload_n 0, 1) := by decide +kernel
theorem dX12_dusts_1 : decode cX12_dusts 1 = .ok (.invokevirtual 149, 3) := by decide +kernel
theorem dX12_dusts_4 : decode cX12_dusts 4 = .ok (.ifCond .ne 6, 3) := by decide +kernel
theorem dX12_dusts_7 : decode cX12_dusts 7 = .ok (.ldc 153, 2) := by decide +kernel
theorem dX12_dusts_9 : decode cX12_dusts 9 = .ok (.ireturn, 1) := by decide +kernel
theorem dX12_dusts_10 : decode cX12_dusts 10 = .ok (.aload_n 0, 1) := by decide +kernel
theorem dX12_dusts_11 : decode cX12_dusts 11 = .ok (.iload_n 1, 1) := by decide +kernel
theorem dX12_dusts_12 : decode cX12_dusts 12 = .ok (.invokevirtual 170, 3) := by decide +kernel
theorem dX12_dusts_15 : decode cX12_dusts 15 = .ok (.ifCond .ne 6, 3) := by decide +kernel
theorem dX12_dusts_18 : decode cX12_dusts 18 = .ok (.ldc 55, 2) := by decide +kernel
theorem dX12_dusts_20 : decode cX12_dusts 20 = .ok (.ireturn, 1) := by decide +kernel
theorem dX12_dusts_21 : decode cX12_dusts 21 = .ok (.aload_n 0, 1) := by decide +kernel
theorem dX12_dusts_22 : decode cX12_dusts 22 = .ok (.invokevirtual 154, 3) := by decide +kernel
theorem dX12_dusts_25 : decode cX12_dusts 25 = .ok (.iconst 0, 1) := by decide +kernel
theorem dX12_dusts_26 : decode cX12_dusts 26 = .ok (.istore_n 2, 1) := by decide +kernel
theorem dX12_dusts_27 : decode cX12_dusts 27 = .ok (.iconst 0, 1) := by decide +kernel
theorem dX12_dusts_28 : decode cX12_dusts 28 = .ok (.istore_n 3, 1) := by decide +kernel
theorem dX12_dusts_29 : decode cX12_dusts 29 = .ok (.iload_n 3, 1) := by decide +kernel
theorem dX12_dusts_30 : decode cX12_dusts 30 = .ok (.aload_n 0, 1) := by decide +kernel
theorem dX12_dusts_31 : decode cX12_dusts 31 = .ok (.getfield 7, 3) := by decide +kernel
theorem dX12_dusts_34 : decode cX12_dusts 34 = .ok (.iconst 1, 1) := by decide +kernel
theorem dX12_dusts_35 : decode cX12_dusts 35 = .ok (.iaload, 1) := by decide +kernel
theorem dX12_dusts_36 : decode cX12_dusts 36 = .ok (.if_icmp .ge 39, 3) := by decide +kernel
theorem dX12_dusts_39 : decode cX12_dusts 39 = .ok (.iload_n 1, 1) := by decide +kernel
theorem dX12_dusts_40 : decode cX12_dusts 40 = .ok (.iload_n 3, 1) := by decide +kernel
theorem dX12_dusts_41 : decode cX12_dusts 41 = .ok (.invokestatic 173, 3) := by decide +kernel
theorem dX12_dusts_44 : decode cX12_dusts 44 = .ok (.ifCond .eq 25, 3) := by decide +kernel
theorem dX12_dusts_47 : decode cX12_dusts 47 = .ok (.iload_n 2, 1) := by decide +kernel
theorem dX12_dusts_48 : decode cX12_dusts 48 = .ok (.aload_n 0, 1) := by decide +kernel
theorem dX12_dusts_49 : decode cX12_dusts 49 = .ok (.getfield 7, 3) := by decide +kernel
theorem dX12_dusts_52 : decode cX12_dusts 52 = .ok (.bipush 26, 2) := by decide +kernel
theorem dX12_dusts_54 : decode cX12_dusts 54 = .ok (.iload_n 3, 1) := by decide +kernel
theorem dX12_dusts_55 : decode cX12_dusts 55 = .ok (.iadd, 1) := by decide +kernel
theorem dX12_dusts_56 : decode cX12_dusts 56 = .ok (.iaload, 1) := by decide +kernel
theorem dX12_dusts_57 : decode cX12_dusts 57 = .ok (.iadd, 1) := by decide +kernel
theorem dX12_dusts_58 : decode cX12_dusts 58 = .ok (.istore_n 2, 1) := by decide +kernel
theorem dX12_dusts_59 : decode cX12_dusts 59 = .ok (.aload_n 0, 1) := by decide +kernel
theorem dX12_dusts_60 : decode cX12_dusts 60 = .ok (.getfield 7, 3) := by decide +kernel
theorem dX12_dusts_63 : decode cX12_dusts 63 = .ok (.bipush 26, 2) := by decide +kernel
theorem dX12_dusts_65 : decode cX12_dusts 65 = .ok (.iload_n 3, 1) := by decide +kernel
theorem dX12_dusts_66 : decode cX12_dusts 66 = .ok (.iadd, 1) := by decide +kernel
theorem dX12_dusts_67 : decode cX12_dusts 67 = .ok (.iconst 0, 1) := by decide +kernel
theorem dX12_dusts_68 : decode cX12_dusts 68 = .ok (.iastore, 1) := by decide +kernel
theorem dX12_dusts_69 : decode cX12_dusts 69 = .ok (.iinc 3 1, 3) := by decide +kernel
theorem dX12_dusts_72 : decode cX12_dusts 72 = .ok (.goto (-43), 3) := by decide +kernel
theorem dX12_dusts_75 : decode cX12_dusts 75 = .ok (.iload_n 2, 1) := by decide +kernel
theorem dX12_dusts_76 : decode cX12_dusts 76 = .ok (.ireturn, 1) := by decide +kernel
theorem dX12_undo_0 : decode cX12_undo 0 = .ok (.aload_n 0, 1) := by decide +kernel
theorem dX12_undo_1 : decode cX12_undo 1 = .ok (.getfield 143, 3) := by decide +kernel
theorem dX12_undo_4 : decode cX12_undo 4 = .ok (.ifCond .ne 6, 3) := by decide +kernel
theorem dX12_undo_7 : decode cX12_undo 7 = .ok (.ldc 153, 2) := by decide +kernel
theorem dX12_undo_9 : decode cX12_undo 9 = .ok (.ireturn, 1) := by decide +kernel
theorem dX12_undo_10 : decode cX12_undo 10 = .ok (.aload_n 0, 1) := by decide +kernel
theorem dX12_undo_11 : decode cX12_undo 11 = .ok (.dup, 1) := by decide +kernel
theorem dX12_undo_12 : decode cX12_undo 12 = .ok (.getfield 143, 3) := by decide +kernel
theorem dX12_undo_15 : decode cX12_undo 15 = .ok (.iconst 1, 1) := by decide +kernel
theorem dX12_undo_16 : decode cX12_undo 16 = .ok (.isub, 1) := by decide +kernel
theorem dX12_undo_17 : decode cX12_undo 17 = .ok (.putfield 143, 3) := by decide +kernel
theorem dX12_undo_20 : decode cX12_undo 20 = .ok (.iconst 0, 1) := by decide +kernel
theorem dX12_undo_21 : decode cX12_undo 21 = .ok (.istore_n 1, 1) := by decide +kernel
theorem dX12_undo_22 : decode cX12_undo 22 = .ok (.iload_n 1, 1) := by decide +kernel
theorem dX12_undo_23 : decode cX12_undo 23 = .ok (.bipush 29, 2) := by decide +kernel
theorem dX12_undo_25 : decode cX12_undo 25 = .ok (.if_icmp .ge 32, 3) := by decide +kernel
theorem dX12_undo_28 : decode cX12_undo 28 = .ok (.aload_n 0, 1) := by decide +kernel
theorem dX12_undo_29 : decode cX12_undo 29 = .ok (.getfield 7, 3) := by decide +kernel
theorem dX12_undo_32 : decode cX12_undo 32 = .ok (.bipush 25, 2) := by decide +kernel
theorem dX12_undo_34 : decode cX12_undo 34 = .ok (.iload_n 1, 1) := by decide +kernel
theorem dX12_undo_35 : decode cX12_undo 35 = .ok (.iadd, 1) := by decide +kernel
theorem dX12_undo_36 : decode cX12_undo 36 = .ok (.aload_n 0, 1) := by decide +kernel
theorem dX12_undo_37 : decode cX12_undo 37 = .ok (.getfield 20, 3) := by decide +kernel
theorem dX12_undo_40 : decode cX12_undo 40 = .ok (.bipush 29, 2) := by decide +kernel
theorem dX12_undo_42 : decode cX12_undo 42 = .ok (.aload_n 0, 1) := by decide +kernel
theorem dX12_undo_43 : decode cX12_undo 43 = .ok (.getfield 143, 3) := by decide +kernel
theorem dX12_undo_46 : decode cX12_undo 46 = .ok (.imul, 1) := by decide +kernel
theorem dX12_undo_47 : decode cX12_undo 47 = .ok (.iload_n 1, 1) := by decide +kernel
theorem dX12_undo_48 : decode cX12_undo 48 = .ok (.iadd, 1) := by decide +kernel
theorem dX12_undo_49 : decode cX12_undo 49 = .ok (.iaload, 1) := by decide +kernel
theorem dX12_undo_50 : decode cX12_undo 50 = .ok (.iastore, 1) := by decide +kernel
theorem dX12_undo_51 : decode cX12_undo 51 = .ok (.iinc 1 1, 3) := by decide +kernel
theorem dX12_undo_54 : decode cX12_undo 54 = .ok (.goto (-32), 3) := by decide +kernel
theorem dX12_undo_57 : decode cX12_undo 57 = .ok (.aload_n 0, 1) := by decide +kernel
theorem dX12_undo_58 : decode cX12_undo 58 = .ok (.getfield 143, 3) := by decide +kernel
theorem dX12_undo_61 : decode cX12_undo 61 = .ok (.ireturn, 1) := by decide +kernel
theorem dX12_spot_0 : decode cX12_spot 0 = .ok (.aload_n 0, 1) := by decide +kernel
theorem dX12_spot_1 : decode cX12_spot 1 = .ok (.iload_n 1, 1) := by decide +kernel
theorem dX12_spot_2 : decode cX12_spot 2 = .ok (.invokevirtual 167, 3) := by decide +kernel
theorem dX12_spot_5 : decode cX12_spot 5 = .ok (.ifCond .eq 12, 3) := by decide +kernel
theorem dX12_spot_8 : decode cX12_spot 8 = .ok (.iload_n 2, 1) := by decide +kernel
theorem dX12_spot_9 : decode cX12_spot 9 = .ok (.iconst 0, 1) := by decide +kernel
theorem dX12_spot_10 : decode cX12_spot 10 = .ok (.iconst 4, 1) := by decide +kernel
theorem dX12_spot_11 : decode cX12_spot 11 = .ok (.invokestatic 47, 3) := by decide +kernel
theorem dX12_spot_14 : decode cX12_spot 14 = .ok (.ifCond .ne 6, 3) := by decide +kernel
theorem dX12_spot_17 : decode cX12_spot 17 = .ok (.ldc 55, 2) := by decide +kernel
theorem dX12_spot_19 : decode cX12_spot 19 = .ok (.ireturn, 1) := by decide +kernel
theorem dX12_spot_20 : decode cX12_spot 20 = .ok (.aload_n 0, 1) := by decide +kernel
theorem dX12_spot_21 : decode cX12_spot 21 = .ok (.getfield 7, 3) := by decide +kernel
theorem dX12_spot_24 : decode cX12_spot 24 = .ok (.bipush 33, 2) := by decide +kernel
theorem dX12_spot_26 : decode cX12_spot 26 = .ok (.iload_n 1, 1) := by decide +kernel
theorem dX12_spot_27 : decode cX12_spot 27 = .ok (.iadd, 1) := by decide +kernel
theorem dX12_spot_28 : decode cX12_spot 28 = .ok (.iaload, 1) := by decide +kernel
theorem dX12_spot_29 : decode cX12_spot 29 = .ok (.istore_n 3, 1) := by decide +kernel
theorem dX12_spot_30 : decode cX12_spot 30 = .ok (.iload_n 2, 1) := by decide +kernel
theorem dX12_spot_31 : decode cX12_spot 31 = .ok (.ifCond .ne 15, 3) := by decide +kernel
theorem dX12_spot_34 : decode cX12_spot 34 = .ok (.aload_n 0, 1) := by decide +kernel
theorem dX12_spot_35 : decode cX12_spot 35 = .ok (.getfield 7, 3) := by decide +kernel
theorem dX12_spot_38 : decode cX12_spot 38 = .ok (.bipush 10, 2) := by decide +kernel
theorem dX12_spot_40 : decode cX12_spot 40 = .ok (.iload_n 1, 1) := by decide +kernel
theorem dX12_spot_41 : decode cX12_spot 41 = .ok (.iadd, 1) := by decide +kernel
theorem dX12_spot_42 : decode cX12_spot 42 = .ok (.iaload, 1) := by decide +kernel
theorem dX12_spot_43 : decode cX12_spot 43 = .ok (.goto 55, 3) := by decide +kernel
theorem dX12_spot_46 : decode cX12_spot 46 = .ok (.iload_n 2, 1) := by decide +kernel
theorem dX12_spot_47 : decode cX12_spot 47 = .ok (.iconst 1, 1) := by decide +kernel
theorem dX12_spot_48 : decode cX12_spot 48 = .ok (.if_icmp .ne 15, 3) := by decide +kernel
theorem dX12_spot_51 : decode cX12_spot 51 = .ok (.aload_n 0, 1) := by decide +kernel
theorem dX12_spot_52 : decode cX12_spot 52 = .ok (.getfield 7, 3) := by decide +kernel
theorem dX12_spot_55 : decode cX12_spot 55 = .ok (.bipush 26, 2) := by decide +kernel
theorem dX12_spot_57 : decode cX12_spot 57 = .ok (.iload_n 1, 1) := by decide +kernel
theorem dX12_spot_58 : decode cX12_spot 58 = .ok (.iadd, 1) := by decide +kernel
theorem dX12_spot_59 : decode cX12_spot 59 = .ok (.iaload, 1) := by decide +kernel
theorem dX12_spot_60 : decode cX12_spot 60 = .ok (.goto 38, 3) := by decide +kernel
theorem dX12_spot_63 : decode cX12_spot 63 = .ok (.iload_n 2, 1) := by decide +kernel
theorem dX12_spot_64 : decode cX12_spot 64 = .ok (.iconst 2, 1) := by decide +kernel
theorem dX12_spot_65 : decode cX12_spot 65 = .ok (.if_icmp .ne 7, 3) := by decide +kernel
theorem dX12_spot_68 : decode cX12_spot 68 = .ok (.iload_n 3, 1) := by decide +kernel
theorem dX12_spot_69 : decode cX12_spot 69 = .ok (.goto 29, 3) := by decide +kernel
theorem dX12_spot_72 : decode cX12_spot 72 = .ok (.iload_n 2, 1) := by decide +kernel
theorem dX12_spot_73 : decode cX12_spot 73 = .ok (.iconst 3, 1) := by decide +kernel
theorem dX12_spot_74 : decode cX12_spot 74 = .ok (.if_icmp .ne 15, 3) := by decide +kernel
theorem dX12_spot_77 : decode cX12_spot 77 = .ok (.aload_n 0, 1) := by decide +kernel
theorem dX12_spot_78 : decode cX12_spot 78 = .ok (.getfield 7, 3) := by decide +kernel
theorem dX12_spot_81 : decode cX12_spot 81 = .ok (.bipush 40, 2) := by decide +kernel
theorem dX12_spot_83 : decode cX12_spot 83 = .ok (.iload_n 3, 1) := by decide +kernel
theorem dX12_spot_84 : decode cX12_spot 84 = .ok (.iadd, 1) := by decide +kernel
theorem dX12_spot_85 : decode cX12_spot 85 = .ok (.iaload, 1) := by decide +kernel
theorem dX12_spot_86 : decode cX12_spot 86 = .ok (.goto 12, 3) := by decide +kernel
theorem dX12_spot_89 : decode cX12_spot 89 = .ok (.aload_n 0, 1) := by decide +kernel
theorem dX12_spot_90 : decode cX12_spot 90 = .ok (.getfield 7, 3) := by decide +kernel
theorem dX12_spot_93 : decode cX12_spot 93 = .ok (.bipush 47, 2) := by decide +kernel
theorem dX12_spot_95 : decode cX12_spot 95 = .ok (.iload_n 1, 1) := by decide +kernel
theorem dX12_spot_96 : decode cX12_spot 96 = .ok (.iadd, 1) := by decide +kernel
theorem dX12_spot_97 : decode cX12_spot 97 = .ok (.iaload, 1) := by decide +kernel
theorem dX12_spot_98 : decode cX12_spot 98 = .ok (.ireturn, 1) := by decide +kernel
theorem dX12_fall_0 : decode cX12_fall 0 = .ok (.aload_n 0, 1) := by decide +kernel
theorem dX12_fall_1 : decode cX12_fall 1 = .ok (.iload_n 1, 1) := by decide +kernel
theorem dX12_fall_2 : decode cX12_fall 2 = .ok (.invokevirtual 167, 3) := by decide +kernel
theorem dX12_fall_5 : decode cX12_fall 5 = .ok (.ifCond .eq 23, 3) := by decide +kernel
theorem dX12_fall_8 : decode cX12_fall 8 = .ok (.iload_n 2, 1) := by decide +kernel
theorem dX12_fall_9 : decode cX12_fall 9 = .ok (.iconst 0, 1) := by decide +kernel
theorem dX12_fall_10 : decode cX12_fall 10 = .ok (.sipush 999, 3) := by decide +kernel
theorem dX12_fall_13 : decode cX12_fall 13 = .ok (.invokestatic 47, 3) := by decide +kernel
theorem dX12_fall_16 : decode cX12_fall 16 = .ok (.ifCond .eq 12, 3) := by decide +kernel
theorem dX12_fall_19 : decode cX12_fall 19 = .ok (.iload_n 3, 1) := by decide +kernel
theorem dX12_fall_20 : decode cX12_fall 20 = .ok (.iconst 0, 1) := by decide +kernel
theorem dX12_fall_21 : decode cX12_fall 21 = .ok (.iconst 1, 1) := by decide +kernel
theorem dX12_fall_22 : decode cX12_fall 22 = .ok (.invokestatic 47, 3) := by decide +kernel
theorem dX12_fall_25 : decode cX12_fall 25 = .ok (.ifCond .ne 6, 3) := by decide +kernel
theorem dX12_fall_28 : decode cX12_fall 28 = .ok (.ldc 55, 2) := by decide +kernel
theorem dX12_fall_30 : decode cX12_fall 30 = .ok (.ireturn, 1) := by decide +kernel
theorem dX12_fall_31 : decode cX12_fall 31 = .ok (.iload_n 3, 1) := by decide +kernel
theorem dX12_fall_32 : decode cX12_fall 32 = .ok (.ifCond .ne 12, 3) := by decide +kernel
theorem dX12_fall_35 : decode cX12_fall 35 = .ok (.aload_n 0, 1) := by decide +kernel
theorem dX12_fall_36 : decode cX12_fall 36 = .ok (.iload_n 1, 1) := by decide +kernel
theorem dX12_fall_37 : decode cX12_fall 37 = .ok (.iload_n 2, 1) := by decide +kernel
theorem dX12_fall_38 : decode cX12_fall 38 = .ok (.invokevirtual 157, 3) := by decide +kernel
theorem dX12_fall_41 : decode cX12_fall 41 = .ok (.goto 9, 3) := by decide +kernel
theorem dX12_fall_44 : decode cX12_fall 44 = .ok (.aload_n 0, 1) := by decide +kernel
theorem dX12_fall_45 : decode cX12_fall 45 = .ok (.iload_n 1, 1) := by decide +kernel
theorem dX12_fall_46 : decode cX12_fall 46 = .ok (.iload_n 2, 1) := by decide +kernel
theorem dX12_fall_47 : decode cX12_fall 47 = .ok (.invokevirtual 164, 3) := by decide +kernel
theorem dX12_fall_50 : decode cX12_fall 50 = .ok (.ireturn, 1) := by decide +kernel
theorem dX12_goes_0 : decode cX12_goes 0 = .ok (.aload_n 0, 1) := by decide +kernel
theorem dX12_goes_1 : decode cX12_goes 1 = .ok (.aload_n 0, 1) := by decide +kernel
theorem dX12_goes_2 : decode cX12_goes 2 = .ok (.getfield 7, 3) := by decide +kernel
theorem dX12_goes_5 : decode cX12_goes 5 = .ok (.bipush 26, 2) := by decide +kernel
theorem dX12_goes_7 : decode cX12_goes 7 = .ok (.iload_n 1, 1) := by decide +kernel
theorem dX12_goes_8 : decode cX12_goes 8 = .ok (.iadd, 1) := by decide +kernel
theorem dX12_goes_9 : decode cX12_goes 9 = .ok (.iaload, 1) := by decide +kernel
theorem dX12_goes_10 : decode cX12_goes 10 = .ok (.putfield 177, 3) := by decide +kernel
theorem dX12_goes_13 : decode cX12_goes 13 = .ok (.aload_n 0, 1) := by decide +kernel
theorem dX12_goes_14 : decode cX12_goes 14 = .ok (.aload_n 0, 1) := by decide +kernel
theorem dX12_goes_15 : decode cX12_goes 15 = .ok (.getfield 7, 3) := by decide +kernel
theorem dX12_goes_18 : decode cX12_goes 18 = .ok (.bipush 40, 2) := by decide +kernel
theorem dX12_goes_20 : decode cX12_goes 20 = .ok (.aload_n 0, 1) := by decide +kernel
theorem dX12_goes_21 : decode cX12_goes 21 = .ok (.getfield 7, 3) := by decide +kernel
theorem dX12_goes_24 : decode cX12_goes 24 = .ok (.bipush 33, 2) := by decide +kernel
theorem dX12_goes_26 : decode cX12_goes 26 = .ok (.iload_n 1, 1) := by decide +kernel
theorem dX12_goes_27 : decode cX12_goes 27 = .ok (.iadd, 1) := by decide +kernel
theorem dX12_goes_28 : decode cX12_goes 28 = .ok (.iaload, 1) := by decide +kernel
theorem dX12_goes_29 : decode cX12_goes 29 = .ok (.iadd, 1) := by decide +kernel
theorem dX12_goes_30 : decode cX12_goes 30 = .ok (.iaload, 1) := by decide +kernel
theorem dX12_goes_31 : decode cX12_goes 31 = .ok (.putfield 180, 3) := by decide +kernel
theorem dX12_goes_34 : decode cX12_goes 34 = .ok (.aload_n 0, 1) := by decide +kernel
theorem dX12_goes_35 : decode cX12_goes 35 = .ok (.getfield 7, 3) := by decide +kernel
theorem dX12_goes_38 : decode cX12_goes 38 = .ok (.bipush 47, 2) := by decide +kernel
theorem dX12_goes_40 : decode cX12_goes 40 = .ok (.iload_n 1, 1) := by decide +kernel
theorem dX12_goes_41 : decode cX12_goes 41 = .ok (.iadd, 1) := by decide +kernel
theorem dX12_goes_42 : decode cX12_goes 42 = .ok (.iaload, 1) := by decide +kernel
theorem dX12_goes_43 : decode cX12_goes 43 = .ok (.istore_n 3, 1) := by decide +kernel
theorem dX12_goes_44 : decode cX12_goes 44 = .ok (.iload_n 3, 1) := by decide +kernel
theorem dX12_goes_45 : decode cX12_goes 45 = .ok (.iload_n 2, 1) := by decide +kernel
theorem dX12_goes_46 : decode cX12_goes 46 = .ok (.if_icmp .ge 61, 3) := by decide +kernel
theorem dX12_goes_49 : decode cX12_goes 49 = .ok (.aload_n 0, 1) := by decide +kernel
theorem dX12_goes_50 : decode cX12_goes 50 = .ok (.aload_n 0, 1) := by decide +kernel
theorem dX12_goes_51 : decode cX12_goes 51 = .ok (.getfield 177, 3) := by decide +kernel
theorem dX12_goes_54 : decode cX12_goes 54 = .ok (.aload_n 0, 1) := by decide +kernel
theorem dX12_goes_55 : decode cX12_goes 55 = .ok (.iload_n 1, 1) := by decide +kernel
theorem dX12_goes_56 : decode cX12_goes 56 = .ok (.aload_n 0, 1) := by decide +kernel
theorem dX12_goes_57 : decode cX12_goes 57 = .ok (.getfield 7, 3) := by decide +kernel
theorem dX12_goes_60 : decode cX12_goes 60 = .ok (.bipush 25, 2) := by decide +kernel
theorem dX12_goes_62 : decode cX12_goes 62 = .ok (.iaload, 1) := by decide +kernel
theorem dX12_goes_63 : decode cX12_goes 63 = .ok (.iload_n 3, 1) := by decide +kernel
theorem dX12_goes_64 : decode cX12_goes 64 = .ok (.iadd, 1) := by decide +kernel
theorem dX12_goes_65 : decode cX12_goes 65 = .ok (.invokevirtual 157, 3) := by decide +kernel
theorem dX12_goes_68 : decode cX12_goes 68 = .ok (.iadd, 1) := by decide +kernel
theorem dX12_goes_69 : decode cX12_goes 69 = .ok (.invokestatic 161, 3) := by decide +kernel
theorem dX12_goes_72 : decode cX12_goes 72 = .ok (.putfield 177, 3) := by decide +kernel
theorem dX12_goes_75 : decode cX12_goes 75 = .ok (.aload_n 0, 1) := by decide +kernel
theorem dX12_goes_76 : decode cX12_goes 76 = .ok (.aload_n 0, 1) := by decide +kernel
theorem dX12_goes_77 : decode cX12_goes 77 = .ok (.getfield 180, 3) := by decide +kernel
theorem dX12_goes_80 : decode cX12_goes 80 = .ok (.aload_n 0, 1) := by decide +kernel
theorem dX12_goes_81 : decode cX12_goes 81 = .ok (.iload_n 1, 1) := by decide +kernel
theorem dX12_goes_82 : decode cX12_goes 82 = .ok (.aload_n 0, 1) := by decide +kernel
theorem dX12_goes_83 : decode cX12_goes 83 = .ok (.getfield 7, 3) := by decide +kernel
theorem dX12_goes_86 : decode cX12_goes 86 = .ok (.bipush 25, 2) := by decide +kernel
theorem dX12_goes_88 : decode cX12_goes 88 = .ok (.iaload, 1) := by decide +kernel
theorem dX12_goes_89 : decode cX12_goes 89 = .ok (.iload_n 3, 1) := by decide +kernel
theorem dX12_goes_90 : decode cX12_goes 90 = .ok (.iadd, 1) := by decide +kernel
theorem dX12_goes_91 : decode cX12_goes 91 = .ok (.invokevirtual 164, 3) := by decide +kernel
theorem dX12_goes_94 : decode cX12_goes 94 = .ok (.iadd, 1) := by decide +kernel
theorem dX12_goes_95 : decode cX12_goes 95 = .ok (.invokestatic 161, 3) := by decide +kernel
theorem dX12_goes_98 : decode cX12_goes 98 = .ok (.putfield 180, 3) := by decide +kernel
theorem dX12_goes_101 : decode cX12_goes 101 = .ok (.iinc 3 1, 3) := by decide +kernel
theorem dX12_goes_104 : decode cX12_goes 104 = .ok (.goto (-60), 3) := by decide +kernel
theorem dX12_goes_107 : decode cX12_goes 107 = .ok (.return_, 1) := by decide +kernel
theorem dX12_ahead_0 : decode cX12_ahead 0 = .ok (.aload_n 0, 1) := by decide +kernel
theorem dX12_ahead_1 : decode cX12_ahead 1 = .ok (.iload_n 1, 1) := by decide +kernel
theorem dX12_ahead_2 : decode cX12_ahead 2 = .ok (.invokevirtual 167, 3) := by decide +kernel
theorem dX12_ahead_5 : decode cX12_ahead 5 = .ok (.ifCond .eq 22, 3) := by decide +kernel
theorem dX12_ahead_8 : decode cX12_ahead 8 = .ok (.iload_n 2, 1) := by decide +kernel
theorem dX12_ahead_9 : decode cX12_ahead 9 = .ok (.iconst 0, 1) := by decide +kernel
theorem dX12_ahead_10 : decode cX12_ahead 10 = .ok (.bipush 99, 2) := by decide +kernel
theorem dX12_ahead_12 : decode cX12_ahead 12 = .ok (.invokestatic 47, 3) := by decide +kernel
theorem dX12_ahead_15 : decode cX12_ahead 15 = .ok (.ifCond .eq 12, 3) := by decide +kernel
theorem dX12_ahead_18 : decode cX12_ahead 18 = .ok (.iload_n 3, 1) := by decide +kernel
theorem dX12_ahead_19 : decode cX12_ahead 19 = .ok (.iconst 0, 1) := by decide +kernel
theorem dX12_ahead_20 : decode cX12_ahead 20 = .ok (.iconst 1, 1) := by decide +kernel
theorem dX12_ahead_21 : decode cX12_ahead 21 = .ok (.invokestatic 47, 3) := by decide +kernel
theorem dX12_ahead_24 : decode cX12_ahead 24 = .ok (.ifCond .ne 6, 3) := by decide +kernel
theorem dX12_ahead_27 : decode cX12_ahead 27 = .ok (.ldc 55, 2) := by decide +kernel
theorem dX12_ahead_29 : decode cX12_ahead 29 = .ok (.ireturn, 1) := by decide +kernel
theorem dX12_ahead_30 : decode cX12_ahead 30 = .ok (.aload_n 0, 1) := by decide +kernel
theorem dX12_ahead_31 : decode cX12_ahead 31 = .ok (.iload_n 1, 1) := by decide +kernel
theorem dX12_ahead_32 : decode cX12_ahead 32 = .ok (.iload_n 2, 1) := by decide +kernel
theorem dX12_ahead_33 : decode cX12_ahead 33 = .ok (.invokevirtual 183, 3) := by decide +kernel
theorem dX12_ahead_36 : decode cX12_ahead 36 = .ok (.iload_n 3, 1) := by decide +kernel
theorem dX12_ahead_37 : decode cX12_ahead 37 = .ok (.ifCond .ne 10, 3) := by decide +kernel
theorem dX12_ahead_40 : decode cX12_ahead 40 = .ok (.aload_n 0, 1) := by decide +kernel
theorem dX12_ahead_41 : decode cX12_ahead 41 = .ok (.getfield 177, 3) := by decide +kernel
theorem dX12_ahead_44 : decode cX12_ahead 44 = .ok (.goto 7, 3) := by decide +kernel
theorem dX12_ahead_47 : decode cX12_ahead 47 = .ok (.aload_n 0, 1) := by decide +kernel
theorem dX12_ahead_48 : decode cX12_ahead 48 = .ok (.getfield 180, 3) := by decide +kernel
theorem dX12_ahead_51 : decode cX12_ahead 51 = .ok (.ireturn, 1) := by decide +kernel
theorem dX12_findWhen_0 : decode cX12_findWhen 0 = .ok (.aload_n 0, 1) := by decide +kernel
theorem dX12_findWhen_1 : decode cX12_findWhen 1 = .ok (.ldc 41, 2) := by decide +kernel
theorem dX12_findWhen_3 : decode cX12_findWhen 3 = .ok (.putfield 187, 3) := by decide +kernel
theorem dX12_findWhen_6 : decode cX12_findWhen 6 = .ok (.aload_n 0, 1) := by decide +kernel
theorem dX12_findWhen_7 : decode cX12_findWhen 7 = .ok (.ldc 41, 2) := by decide +kernel
theorem dX12_findWhen_9 : decode cX12_findWhen 9 = .ok (.putfield 190, 3) := by decide +kernel
theorem dX12_findWhen_12 : decode cX12_findWhen 12 = .ok (.iconst 0, 1) := by decide +kernel
theorem dX12_findWhen_13 : decode cX12_findWhen 13 = .ok (.istore_n 3, 1) := by decide +kernel
theorem dX12_findWhen_14 : decode cX12_findWhen 14 = .ok (.aload_n 0, 1) := by decide +kernel
theorem dX12_findWhen_15 : decode cX12_findWhen 15 = .ok (.getfield 7, 3) := by decide +kernel
theorem dX12_findWhen_18 : decode cX12_findWhen 18 = .ok (.bipush 25, 2) := by decide +kernel
theorem dX12_findWhen_20 : decode cX12_findWhen 20 = .ok (.iaload, 1) := by decide +kernel
theorem dX12_findWhen_21 : decode cX12_findWhen 21 = .ok (.istore 4, 2) := by decide +kernel
theorem dX12_findWhen_23 : decode cX12_findWhen 23 = .ok (.iload 4, 2) := by decide +kernel
theorem dX12_findWhen_25 : decode cX12_findWhen 25 = .ok (.ifCond .lt 68, 3) := by decide +kernel
theorem dX12_findWhen_28 : decode cX12_findWhen 28 = .ok (.iload_n 3, 1) := by decide +kernel
theorem dX12_findWhen_29 : decode cX12_findWhen 29 = .ok (.iload 4, 2) := by decide +kernel
theorem dX12_findWhen_31 : decode cX12_findWhen 31 = .ok (.aload_n 0, 1) := by decide +kernel
theorem dX12_findWhen_32 : decode cX12_findWhen 32 = .ok (.getfield 7, 3) := by decide +kernel
theorem dX12_findWhen_35 : decode cX12_findWhen 35 = .ok (.bipush 25, 2) := by decide +kernel
theorem dX12_findWhen_37 : decode cX12_findWhen 37 = .ok (.iaload, 1) := by decide +kernel
theorem dX12_findWhen_38 : decode cX12_findWhen 38 = .ok (.if_icmp .ne 7, 3) := by decide +kernel
theorem dX12_findWhen_41 : decode cX12_findWhen 41 = .ok (.iconst 0, 1) := by decide +kernel
theorem dX12_findWhen_42 : decode cX12_findWhen 42 = .ok (.goto 10, 3) := by decide +kernel
theorem dX12_findWhen_45 : decode cX12_findWhen 45 = .ok (.aload_n 0, 1) := by decide +kernel
theorem dX12_findWhen_46 : decode cX12_findWhen 46 = .ok (.iload_n 1, 1) := by decide +kernel
theorem dX12_findWhen_47 : decode cX12_findWhen 47 = .ok (.iload 4, 2) := by decide +kernel
theorem dX12_findWhen_49 : decode cX12_findWhen 49 = .ok (.invokevirtual 157, 3) := by decide +kernel
theorem dX12_findWhen_52 : decode cX12_findWhen 52 = .ok (.iadd, 1) := by decide +kernel
theorem dX12_findWhen_53 : decode cX12_findWhen 53 = .ok (.istore_n 3, 1) := by decide +kernel
theorem dX12_findWhen_54 : decode cX12_findWhen 54 = .ok (.iload_n 3, 1) := by decide +kernel
theorem dX12_findWhen_55 : decode cX12_findWhen 55 = .ok (.iload_n 2, 1) := by decide +kernel
theorem dX12_findWhen_56 : decode cX12_findWhen 56 = .ok (.if_icmp .ne 31, 3) := by decide +kernel
theorem dX12_findWhen_59 : decode cX12_findWhen 59 = .ok (.aload_n 0, 1) := by decide +kernel
theorem dX12_findWhen_60 : decode cX12_findWhen 60 = .ok (.iload 4, 2) := by decide +kernel
theorem dX12_findWhen_62 : decode cX12_findWhen 62 = .ok (.putfield 187, 3) := by decide +kernel
theorem dX12_findWhen_65 : decode cX12_findWhen 65 = .ok (.aload_n 0, 1) := by decide +kernel
theorem dX12_findWhen_66 : decode cX12_findWhen 66 = .ok (.aload_n 0, 1) := by decide +kernel
theorem dX12_findWhen_67 : decode cX12_findWhen 67 = .ok (.getfield 190, 3) := by decide +kernel
theorem dX12_findWhen_70 : decode cX12_findWhen 70 = .ok (.ldc 41, 2) := by decide +kernel
theorem dX12_findWhen_72 : decode cX12_findWhen 72 = .ok (.if_icmp .ne 8, 3) := by decide +kernel
theorem dX12_findWhen_75 : decode cX12_findWhen 75 = .ok (.iload 4, 2) := by decide +kernel
theorem dX12_findWhen_77 : decode cX12_findWhen 77 = .ok (.goto 7, 3) := by decide +kernel
theorem dX12_findWhen_80 : decode cX12_findWhen 80 = .ok (.aload_n 0, 1) := by decide +kernel
theorem dX12_findWhen_81 : decode cX12_findWhen 81 = .ok (.getfield 190, 3) := by decide +kernel
theorem dX12_findWhen_84 : decode cX12_findWhen 84 = .ok (.putfield 190, 3) := by decide +kernel
theorem dX12_findWhen_87 : decode cX12_findWhen 87 = .ok (.iinc 4 (-1), 3) := by decide +kernel
theorem dX12_findWhen_90 : decode cX12_findWhen 90 = .ok (.goto (-67), 3) := by decide +kernel
theorem dX12_findWhen_93 : decode cX12_findWhen 93 = .ok (.return_, 1) := by decide +kernel
theorem dX12_when_0 : decode cX12_when 0 = .ok (.aload_n 0, 1) := by decide +kernel
theorem dX12_when_1 : decode cX12_when 1 = .ok (.iload_n 1, 1) := by decide +kernel
theorem dX12_when_2 : decode cX12_when 2 = .ok (.invokevirtual 167, 3) := by decide +kernel
theorem dX12_when_5 : decode cX12_when 5 = .ok (.ifCond .eq 23, 3) := by decide +kernel
theorem dX12_when_8 : decode cX12_when 8 = .ok (.iload_n 2, 1) := by decide +kernel
theorem dX12_when_9 : decode cX12_when 9 = .ok (.iconst 0, 1) := by decide +kernel
theorem dX12_when_10 : decode cX12_when 10 = .ok (.sipush 9999, 3) := by decide +kernel
theorem dX12_when_13 : decode cX12_when 13 = .ok (.invokestatic 47, 3) := by decide +kernel
theorem dX12_when_16 : decode cX12_when 16 = .ok (.ifCond .eq 12, 3) := by decide +kernel
theorem dX12_when_19 : decode cX12_when 19 = .ok (.iload_n 3, 1) := by decide +kernel
theorem dX12_when_20 : decode cX12_when 20 = .ok (.iconst 0, 1) := by decide +kernel
theorem dX12_when_21 : decode cX12_when 21 = .ok (.iconst 1, 1) := by decide +kernel
theorem dX12_when_22 : decode cX12_when 22 = .ok (.invokestatic 47, 3) := by decide +kernel
theorem dX12_when_25 : decode cX12_when 25 = .ok (.ifCond .ne 6, 3) := by decide +kernel
theorem dX12_when_28 : decode cX12_when 28 = .ok (.ldc 55, 2) := by decide +kernel
theorem dX12_when_30 : decode cX12_when 30 = .ok (.ireturn, 1) := by decide +kernel
theorem dX12_when_31 : decode cX12_when 31 = .ok (.aload_n 0, 1) := by decide +kernel
theorem dX12_when_32 : decode cX12_when 32 = .ok (.iload_n 1, 1) := by decide +kernel
theorem dX12_when_33 : decode cX12_when 33 = .ok (.iload_n 2, 1) := by decide +kernel
theorem dX12_when_34 : decode cX12_when 34 = .ok (.invokevirtual 193, 3) := by decide +kernel
theorem dX12_when_37 : decode cX12_when 37 = .ok (.iload_n 3, 1) := by decide +kernel
theorem dX12_when_38 : decode cX12_when 38 = .ok (.ifCond .ne 10, 3) := by decide +kernel
theorem dX12_when_41 : decode cX12_when 41 = .ok (.aload_n 0, 1) := by decide +kernel
theorem dX12_when_42 : decode cX12_when 42 = .ok (.getfield 187, 3) := by decide +kernel
theorem dX12_when_45 : decode cX12_when 45 = .ok (.goto 7, 3) := by decide +kernel
theorem dX12_when_48 : decode cX12_when 48 = .ok (.aload_n 0, 1) := by decide +kernel
theorem dX12_when_49 : decode cX12_when 49 = .ok (.getfield 190, 3) := by decide +kernel
theorem dX12_when_52 : decode cX12_when 52 = .ok (.ireturn, 1) := by decide +kernel
theorem dX12_whoOf_0 : decode cX12_whoOf 0 = .ok (.iconst 0, 1) := by decide +kernel
theorem dX12_whoOf_1 : decode cX12_whoOf 1 = .ok (.istore_n 2, 1) := by decide +kernel
theorem dX12_whoOf_2 : decode cX12_whoOf 2 = .ok (.iconst 1, 1) := by decide +kernel
theorem dX12_whoOf_3 : decode cX12_whoOf 3 = .ok (.aload_n 0, 1) := by decide +kernel
theorem dX12_whoOf_4 : decode cX12_whoOf 4 = .ok (.getfield 7, 3) := by decide +kernel
theorem dX12_whoOf_7 : decode cX12_whoOf 7 = .ok (.iconst 2, 1) := by decide +kernel
theorem dX12_whoOf_8 : decode cX12_whoOf 8 = .ok (.iaload, 1) := by decide +kernel
theorem dX12_whoOf_9 : decode cX12_whoOf 9 = .ok (.ishl, 1) := by decide +kernel
theorem dX12_whoOf_10 : decode cX12_whoOf 10 = .ok (.iconst 1, 1) := by decide +kernel
theorem dX12_whoOf_11 : decode cX12_whoOf 11 = .ok (.isub, 1) := by decide +kernel
theorem dX12_whoOf_12 : decode cX12_whoOf 12 = .ok (.istore_n 3, 1) := by decide +kernel
theorem dX12_whoOf_13 : decode cX12_whoOf 13 = .ok (.aload_n 0, 1) := by decide +kernel
theorem dX12_whoOf_14 : decode cX12_whoOf 14 = .ok (.getfield 187, 3) := by decide +kernel
theorem dX12_whoOf_17 : decode cX12_whoOf 17 = .ok (.istore 4, 2) := by decide +kernel
theorem dX12_whoOf_19 : decode cX12_whoOf 19 = .ok (.iload 4, 2) := by decide +kernel
theorem dX12_whoOf_21 : decode cX12_whoOf 21 = .ok (.aload_n 0, 1) := by decide +kernel
theorem dX12_whoOf_22 : decode cX12_whoOf 22 = .ok (.getfield 190, 3) := by decide +kernel
theorem dX12_whoOf_25 : decode cX12_whoOf 25 = .ok (.if_icmp .gt 86, 3) := by decide +kernel
theorem dX12_whoOf_28 : decode cX12_whoOf 28 = .ok (.iconst 0, 1) := by decide +kernel
theorem dX12_whoOf_29 : decode cX12_whoOf 29 = .ok (.istore 5, 2) := by decide +kernel
theorem dX12_whoOf_31 : decode cX12_whoOf 31 = .ok (.iconst 0, 1) := by decide +kernel
theorem dX12_whoOf_32 : decode cX12_whoOf 32 = .ok (.istore 6, 2) := by decide +kernel
theorem dX12_whoOf_34 : decode cX12_whoOf 34 = .ok (.iload 6, 2) := by decide +kernel
theorem dX12_whoOf_36 : decode cX12_whoOf 36 = .ok (.aload_n 0, 1) := by decide +kernel
theorem dX12_whoOf_37 : decode cX12_whoOf 37 = .ok (.getfield 7, 3) := by decide +kernel
theorem dX12_whoOf_40 : decode cX12_whoOf 40 = .ok (.iconst 2, 1) := by decide +kernel
theorem dX12_whoOf_41 : decode cX12_whoOf 41 = .ok (.iaload, 1) := by decide +kernel
theorem dX12_whoOf_42 : decode cX12_whoOf 42 = .ok (.if_icmp .ge 53, 3) := by decide +kernel
theorem dX12_whoOf_45 : decode cX12_whoOf 45 = .ok (.iload 5, 2) := by decide +kernel
theorem dX12_whoOf_47 : decode cX12_whoOf 47 = .ok (.iload 4, 2) := by decide +kernel
theorem dX12_whoOf_49 : decode cX12_whoOf 49 = .ok (.bipush 24, 2) := by decide +kernel
theorem dX12_whoOf_51 : decode cX12_whoOf 51 = .ok (.irem, 1) := by decide +kernel
theorem dX12_whoOf_52 : decode cX12_whoOf 52 = .ok (.aload_n 0, 1) := by decide +kernel
theorem dX12_whoOf_53 : decode cX12_whoOf 53 = .ok (.getfield 7, 3) := by decide +kernel
theorem dX12_whoOf_56 : decode cX12_whoOf 56 = .ok (.bipush 17, 2) := by decide +kernel
theorem dX12_whoOf_58 : decode cX12_whoOf 58 = .ok (.iload 6, 2) := by decide +kernel
theorem dX12_whoOf_60 : decode cX12_whoOf 60 = .ok (.iadd, 1) := by decide +kernel
theorem dX12_whoOf_61 : decode cX12_whoOf 61 = .ok (.iaload, 1) := by decide +kernel
theorem dX12_whoOf_62 : decode cX12_whoOf 62 = .ok (.aload_n 0, 1) := by decide +kernel
theorem dX12_whoOf_63 : decode cX12_whoOf 63 = .ok (.getfield 7, 3) := by decide +kernel
theorem dX12_whoOf_66 : decode cX12_whoOf 66 = .ok (.bipush 21, 2) := by decide +kernel
theorem dX12_whoOf_68 : decode cX12_whoOf 68 = .ok (.iload 6, 2) := by decide +kernel
theorem dX12_whoOf_70 : decode cX12_whoOf 70 = .ok (.iadd, 1) := by decide +kernel
theorem dX12_whoOf_71 : decode cX12_whoOf 71 = .ok (.iaload, 1) := by decide +kernel
theorem dX12_whoOf_72 : decode cX12_whoOf 72 = .ok (.invokestatic 47, 3) := by decide +kernel
theorem dX12_whoOf_75 : decode cX12_whoOf 75 = .ok (.ifCond .eq 10, 3) := by decide +kernel
theorem dX12_whoOf_78 : decode cX12_whoOf 78 = .ok (.iconst 1, 1) := by decide +kernel
theorem dX12_whoOf_79 : decode cX12_whoOf 79 = .ok (.iload 6, 2) := by decide +kernel
theorem dX12_whoOf_81 : decode cX12_whoOf 81 = .ok (.ishl, 1) := by decide +kernel
theorem dX12_whoOf_82 : decode cX12_whoOf 82 = .ok (.goto 4, 3) := by decide +kernel
theorem dX12_whoOf_85 : decode cX12_whoOf 85 = .ok (.iconst 0, 1) := by decide +kernel
theorem dX12_whoOf_86 : decode cX12_whoOf 86 = .ok (.ior, 1) := by decide +kernel
theorem dX12_whoOf_87 : decode cX12_whoOf 87 = .ok (.istore 5, 2) := by decide +kernel
theorem dX12_whoOf_89 : decode cX12_whoOf 89 = .ok (.iinc 6 1, 3) := by decide +kernel
theorem dX12_whoOf_92 : decode cX12_whoOf 92 = .ok (.goto (-58), 3) := by decide +kernel
theorem dX12_whoOf_95 : decode cX12_whoOf 95 = .ok (.iload_n 2, 1) := by decide +kernel
theorem dX12_whoOf_96 : decode cX12_whoOf 96 = .ok (.iload 5, 2) := by decide +kernel
theorem dX12_whoOf_98 : decode cX12_whoOf 98 = .ok (.ior, 1) := by decide +kernel
theorem dX12_whoOf_99 : decode cX12_whoOf 99 = .ok (.istore_n 2, 1) := by decide +kernel
theorem dX12_whoOf_100 : decode cX12_whoOf 100 = .ok (.iload_n 3, 1) := by decide +kernel
theorem dX12_whoOf_101 : decode cX12_whoOf 101 = .ok (.iload 5, 2) := by decide +kernel
theorem dX12_whoOf_103 : decode cX12_whoOf 103 = .ok (.iand, 1) := by decide +kernel
theorem dX12_whoOf_104 : decode cX12_whoOf 104 = .ok (.istore_n 3, 1) := by decide +kernel
theorem dX12_whoOf_105 : decode cX12_whoOf 105 = .ok (.iinc 4 1, 3) := by decide +kernel
theorem dX12_whoOf_108 : decode cX12_whoOf 108 = .ok (.goto (-89), 3) := by decide +kernel
theorem dX12_whoOf_111 : decode cX12_whoOf 111 = .ok (.iload_n 1, 1) := by decide +kernel
theorem dX12_whoOf_112 : decode cX12_whoOf 112 = .ok (.ifCond .eq 7, 3) := by decide +kernel
theorem dX12_whoOf_115 : decode cX12_whoOf 115 = .ok (.iload_n 3, 1) := by decide +kernel
theorem dX12_whoOf_116 : decode cX12_whoOf 116 = .ok (.goto 4, 3) := by decide +kernel
theorem dX12_whoOf_119 : decode cX12_whoOf 119 = .ok (.iload_n 2, 1) := by decide +kernel
theorem dX12_whoOf_120 : decode cX12_whoOf 120 = .ok (.ireturn, 1) := by decide +kernel
theorem dX12_who_0 : decode cX12_who 0 = .ok (.aload_n 0, 1) := by decide +kernel
theorem dX12_who_1 : decode cX12_who 1 = .ok (.iload_n 1, 1) := by decide +kernel
theorem dX12_who_2 : decode cX12_who 2 = .ok (.invokevirtual 167, 3) := by decide +kernel
theorem dX12_who_5 : decode cX12_who 5 = .ok (.ifCond .eq 23, 3) := by decide +kernel
theorem dX12_who_8 : decode cX12_who 8 = .ok (.iload_n 2, 1) := by decide +kernel
theorem dX12_who_9 : decode cX12_who 9 = .ok (.iconst 0, 1) := by decide +kernel
theorem dX12_who_10 : decode cX12_who 10 = .ok (.sipush 9999, 3) := by decide +kernel
theorem dX12_who_13 : decode cX12_who 13 = .ok (.invokestatic 47, 3) := by decide +kernel
theorem dX12_who_16 : decode cX12_who 16 = .ok (.ifCond .eq 12, 3) := by decide +kernel
theorem dX12_who_19 : decode cX12_who 19 = .ok (.iload_n 3, 1) := by decide +kernel
theorem dX12_who_20 : decode cX12_who 20 = .ok (.iconst 0, 1) := by decide +kernel
theorem dX12_who_21 : decode cX12_who 21 = .ok (.iconst 1, 1) := by decide +kernel
theorem dX12_who_22 : decode cX12_who 22 = .ok (.invokestatic 47, 3) := by decide +kernel
theorem dX12_who_25 : decode cX12_who 25 = .ok (.ifCond .ne 6, 3) := by decide +kernel
theorem dX12_who_28 : decode cX12_who 28 = .ok (.ldc 55, 2) := by decide +kernel
theorem dX12_who_30 : decode cX12_who 30 = .ok (.ireturn, 1) := by decide +kernel
theorem dX12_who_31 : decode cX12_who 31 = .ok (.aload_n 0, 1) := by decide +kernel
theorem dX12_who_32 : decode cX12_who 32 = .ok (.iload_n 1, 1) := by decide +kernel
theorem dX12_who_33 : decode cX12_who 33 = .ok (.iload_n 2, 1) := by decide +kernel
theorem dX12_who_34 : decode cX12_who 34 = .ok (.invokevirtual 193, 3) := by decide +kernel
theorem dX12_who_37 : decode cX12_who 37 = .ok (.aload_n 0, 1) := by decide +kernel
theorem dX12_who_38 : decode cX12_who 38 = .ok (.getfield 187, 3) := by decide +kernel
theorem dX12_who_41 : decode cX12_who 41 = .ok (.ldc 41, 2) := by decide +kernel
theorem dX12_who_43 : decode cX12_who 43 = .ok (.if_icmp .ne 8, 3) := by decide +kernel
theorem dX12_who_46 : decode cX12_who 46 = .ok (.ldc 41, 2) := by decide +kernel
theorem dX12_who_48 : decode cX12_who 48 = .ok (.goto 17, 3) := by decide +kernel
theorem dX12_who_51 : decode cX12_who 51 = .ok (.aload_n 0, 1) := by decide +kernel
theorem dX12_who_52 : decode cX12_who 52 = .ok (.iload_n 3, 1) := by decide +kernel
theorem dX12_who_53 : decode cX12_who 53 = .ok (.iconst 1, 1) := by decide +kernel
theorem dX12_who_54 : decode cX12_who 54 = .ok (.if_icmp .ne 7, 3) := by decide +kernel
theorem dX12_who_57 : decode cX12_who 57 = .ok (.iconst 1, 1) := by decide +kernel
theorem dX12_who_58 : decode cX12_who 58 = .ok (.goto 4, 3) := by decide +kernel
theorem dX12_who_61 : decode cX12_who 61 = .ok (.iconst 0, 1) := by decide +kernel
theorem dX12_who_62 : decode cX12_who 62 = .ok (.invokevirtual 196, 3) := by decide +kernel
theorem dX12_who_65 : decode cX12_who 65 = .ok (.ireturn, 1) := by decide +kernel
theorem dX12_oneHand_0 : decode cX12_oneHand 0 = .ok (.aload_n 0, 1) := by decide +kernel
theorem dX12_oneHand_1 : decode cX12_oneHand 1 = .ok (.invokevirtual 149, 3) := by decide +kernel
theorem dX12_oneHand_4 : decode cX12_oneHand 4 = .ok (.ifCond .ne 6, 3) := by decide +kernel
theorem dX12_oneHand_7 : decode cX12_oneHand 7 = .ok (.ldc 153, 2) := by decide +kernel
theorem dX12_oneHand_9 : decode cX12_oneHand 9 = .ok (.ireturn, 1) := by decide +kernel
theorem dX12_oneHand_10 : decode cX12_oneHand 10 = .ok (.aload_n 0, 1) := by decide +kernel
theorem dX12_oneHand_11 : decode cX12_oneHand 11 = .ok (.iload_n 1, 1) := by decide +kernel
theorem dX12_oneHand_12 : decode cX12_oneHand 12 = .ok (.invokevirtual 170, 3) := by decide +kernel
theorem dX12_oneHand_15 : decode cX12_oneHand 15 = .ok (.ifCond .ne 6, 3) := by decide +kernel
theorem dX12_oneHand_18 : decode cX12_oneHand 18 = .ok (.ldc 55, 2) := by decide +kernel
theorem dX12_oneHand_20 : decode cX12_oneHand 20 = .ok (.ireturn, 1) := by decide +kernel
theorem dX12_oneHand_21 : decode cX12_oneHand 21 = .ok (.iconst 1, 1) := by decide +kernel
theorem dX12_oneHand_22 : decode cX12_oneHand 22 = .ok (.aload_n 0, 1) := by decide +kernel
theorem dX12_oneHand_23 : decode cX12_oneHand 23 = .ok (.getfield 7, 3) := by decide +kernel
theorem dX12_oneHand_26 : decode cX12_oneHand 26 = .ok (.iconst 2, 1) := by decide +kernel
theorem dX12_oneHand_27 : decode cX12_oneHand 27 = .ok (.iaload, 1) := by decide +kernel
theorem dX12_oneHand_28 : decode cX12_oneHand 28 = .ok (.ishl, 1) := by decide +kernel
theorem dX12_oneHand_29 : decode cX12_oneHand 29 = .ok (.iconst 1, 1) := by decide +kernel
theorem dX12_oneHand_30 : decode cX12_oneHand 30 = .ok (.isub, 1) := by decide +kernel
theorem dX12_oneHand_31 : decode cX12_oneHand 31 = .ok (.istore_n 2, 1) := by decide +kernel
theorem dX12_oneHand_32 : decode cX12_oneHand 32 = .ok (.iconst 0, 1) := by decide +kernel
theorem dX12_oneHand_33 : decode cX12_oneHand 33 = .ok (.istore_n 3, 1) := by decide +kernel
theorem dX12_oneHand_34 : decode cX12_oneHand 34 = .ok (.iload_n 3, 1) := by decide +kernel
theorem dX12_oneHand_35 : decode cX12_oneHand 35 = .ok (.aload_n 0, 1) := by decide +kernel
theorem dX12_oneHand_36 : decode cX12_oneHand 36 = .ok (.getfield 7, 3) := by decide +kernel
theorem dX12_oneHand_39 : decode cX12_oneHand 39 = .ok (.iconst 1, 1) := by decide +kernel
theorem dX12_oneHand_40 : decode cX12_oneHand 40 = .ok (.iaload, 1) := by decide +kernel
theorem dX12_oneHand_41 : decode cX12_oneHand 41 = .ok (.if_icmp .ge 52, 3) := by decide +kernel
theorem dX12_oneHand_44 : decode cX12_oneHand 44 = .ok (.iload_n 1, 1) := by decide +kernel
theorem dX12_oneHand_45 : decode cX12_oneHand 45 = .ok (.iload_n 3, 1) := by decide +kernel
theorem dX12_oneHand_46 : decode cX12_oneHand 46 = .ok (.invokestatic 173, 3) := by decide +kernel
theorem dX12_oneHand_49 : decode cX12_oneHand 49 = .ok (.ifCond .eq 38, 3) := by decide +kernel
theorem dX12_oneHand_52 : decode cX12_oneHand 52 = .ok (.aload_n 0, 1) := by decide +kernel
theorem dX12_oneHand_53 : decode cX12_oneHand 53 = .ok (.iload_n 3, 1) := by decide +kernel
theorem dX12_oneHand_54 : decode cX12_oneHand 54 = .ok (.aload_n 0, 1) := by decide +kernel
theorem dX12_oneHand_55 : decode cX12_oneHand 55 = .ok (.getfield 7, 3) := by decide +kernel
theorem dX12_oneHand_58 : decode cX12_oneHand 58 = .ok (.bipush 26, 2) := by decide +kernel
theorem dX12_oneHand_60 : decode cX12_oneHand 60 = .ok (.iload_n 3, 1) := by decide +kernel
theorem dX12_oneHand_61 : decode cX12_oneHand 61 = .ok (.iadd, 1) := by decide +kernel
theorem dX12_oneHand_62 : decode cX12_oneHand 62 = .ok (.iaload, 1) := by decide +kernel
theorem dX12_oneHand_63 : decode cX12_oneHand 63 = .ok (.invokevirtual 193, 3) := by decide +kernel
theorem dX12_oneHand_66 : decode cX12_oneHand 66 = .ok (.iload_n 2, 1) := by decide +kernel
theorem dX12_oneHand_67 : decode cX12_oneHand 67 = .ok (.aload_n 0, 1) := by decide +kernel
theorem dX12_oneHand_68 : decode cX12_oneHand 68 = .ok (.getfield 187, 3) := by decide +kernel
theorem dX12_oneHand_71 : decode cX12_oneHand 71 = .ok (.ldc 41, 2) := by decide +kernel
theorem dX12_oneHand_73 : decode cX12_oneHand 73 = .ok (.if_icmp .ne 7, 3) := by decide +kernel
theorem dX12_oneHand_76 : decode cX12_oneHand 76 = .ok (.iconst 0, 1) := by decide +kernel
theorem dX12_oneHand_77 : decode cX12_oneHand 77 = .ok (.goto 8, 3) := by decide +kernel
theorem dX12_oneHand_80 : decode cX12_oneHand 80 = .ok (.aload_n 0, 1) := by decide +kernel
theorem dX12_oneHand_81 : decode cX12_oneHand 81 = .ok (.iconst 0, 1) := by decide +kernel
theorem dX12_oneHand_82 : decode cX12_oneHand 82 = .ok (.invokevirtual 196, 3) := by decide +kernel
theorem dX12_oneHand_85 : decode cX12_oneHand 85 = .ok (.iand, 1) := by decide +kernel
theorem dX12_oneHand_86 : decode cX12_oneHand 86 = .ok (.istore_n 2, 1) := by decide +kernel
theorem dX12_oneHand_87 : decode cX12_oneHand 87 = .ok (.iinc 3 1, 3) := by decide +kernel
theorem dX12_oneHand_90 : decode cX12_oneHand 90 = .ok (.goto (-56), 3) := by decide +kernel
theorem dX12_oneHand_93 : decode cX12_oneHand 93 = .ok (.iload_n 2, 1) := by decide +kernel
theorem dX12_oneHand_94 : decode cX12_oneHand 94 = .ok (.ireturn, 1) := by decide +kernel
theorem dX12_moved_0 : decode cX12_moved 0 = .ok (.aload_n 0, 1) := by decide +kernel
theorem dX12_moved_1 : decode cX12_moved 1 = .ok (.invokevirtual 149, 3) := by decide +kernel
theorem dX12_moved_4 : decode cX12_moved 4 = .ok (.ifCond .ne 6, 3) := by decide +kernel
theorem dX12_moved_7 : decode cX12_moved 7 = .ok (.ldc 153, 2) := by decide +kernel
theorem dX12_moved_9 : decode cX12_moved 9 = .ok (.ireturn, 1) := by decide +kernel
theorem dX12_moved_10 : decode cX12_moved 10 = .ok (.iconst 0, 1) := by decide +kernel
theorem dX12_moved_11 : decode cX12_moved 11 = .ok (.istore_n 1, 1) := by decide +kernel
theorem dX12_moved_12 : decode cX12_moved 12 = .ok (.iconst 0, 1) := by decide +kernel
theorem dX12_moved_13 : decode cX12_moved 13 = .ok (.istore_n 2, 1) := by decide +kernel
theorem dX12_moved_14 : decode cX12_moved 14 = .ok (.iload_n 2, 1) := by decide +kernel
theorem dX12_moved_15 : decode cX12_moved 15 = .ok (.aload_n 0, 1) := by decide +kernel
theorem dX12_moved_16 : decode cX12_moved 16 = .ok (.getfield 7, 3) := by decide +kernel
theorem dX12_moved_19 : decode cX12_moved 19 = .ok (.iconst 1, 1) := by decide +kernel
theorem dX12_moved_20 : decode cX12_moved 20 = .ok (.iaload, 1) := by decide +kernel
theorem dX12_moved_21 : decode cX12_moved 21 = .ok (.if_icmp .ge 32, 3) := by decide +kernel
theorem dX12_moved_24 : decode cX12_moved 24 = .ok (.iload_n 1, 1) := by decide +kernel
theorem dX12_moved_25 : decode cX12_moved 25 = .ok (.aload_n 0, 1) := by decide +kernel
theorem dX12_moved_26 : decode cX12_moved 26 = .ok (.getfield 7, 3) := by decide +kernel
theorem dX12_moved_29 : decode cX12_moved 29 = .ok (.bipush 33, 2) := by decide +kernel
theorem dX12_moved_31 : decode cX12_moved 31 = .ok (.iload_n 2, 1) := by decide +kernel
theorem dX12_moved_32 : decode cX12_moved 32 = .ok (.iadd, 1) := by decide +kernel
theorem dX12_moved_33 : decode cX12_moved 33 = .ok (.iaload, 1) := by decide +kernel
theorem dX12_moved_34 : decode cX12_moved 34 = .ok (.iload_n 2, 1) := by decide +kernel
theorem dX12_moved_35 : decode cX12_moved 35 = .ok (.if_icmp .ne 7, 3) := by decide +kernel
theorem dX12_moved_38 : decode cX12_moved 38 = .ok (.iconst 0, 1) := by decide +kernel
theorem dX12_moved_39 : decode cX12_moved 39 = .ok (.goto 6, 3) := by decide +kernel
theorem dX12_moved_42 : decode cX12_moved 42 = .ok (.iconst 1, 1) := by decide +kernel
theorem dX12_moved_43 : decode cX12_moved 43 = .ok (.iload_n 2, 1) := by decide +kernel
theorem dX12_moved_44 : decode cX12_moved 44 = .ok (.ishl, 1) := by decide +kernel
theorem dX12_moved_45 : decode cX12_moved 45 = .ok (.ior, 1) := by decide +kernel
theorem dX12_moved_46 : decode cX12_moved 46 = .ok (.istore_n 1, 1) := by decide +kernel
theorem dX12_moved_47 : decode cX12_moved 47 = .ok (.iinc 2 1, 3) := by decide +kernel
theorem dX12_moved_50 : decode cX12_moved 50 = .ok (.goto (-36), 3) := by decide +kernel
theorem dX12_moved_53 : decode cX12_moved 53 = .ok (.iload_n 1, 1) := by decide +kernel
theorem dX12_moved_54 : decode cX12_moved 54 = .ok (.ireturn, 1) := by decide +kernel
theorem dX12_like_0 : decode cX12_like 0 = .ok (.aload_n 0, 1) := by decide +kernel
theorem dX12_like_1 : decode cX12_like 1 = .ok (.iload_n 1, 1) := by decide +kernel
theorem dX12_like_2 : decode cX12_like 2 = .ok (.invokevirtual 167, 3) := by decide +kernel
theorem dX12_like_5 : decode cX12_like 5 = .ok (.ifCond .eq 16, 3) := by decide +kernel
theorem dX12_like_8 : decode cX12_like 8 = .ok (.aload_n 0, 1) := by decide +kernel
theorem dX12_like_9 : decode cX12_like 9 = .ok (.iload_n 2, 1) := by decide +kernel
theorem dX12_like_10 : decode cX12_like 10 = .ok (.invokevirtual 167, 3) := by decide +kernel
theorem dX12_like_13 : decode cX12_like 13 = .ok (.ifCond .eq 8, 3) := by decide +kernel
theorem dX12_like_16 : decode cX12_like 16 = .ok (.iload_n 1, 1) := by decide +kernel
theorem dX12_like_17 : decode cX12_like 17 = .ok (.iload_n 2, 1) := by decide +kernel
theorem dX12_like_18 : decode cX12_like 18 = .ok (.if_icmp .ne 6, 3) := by decide +kernel
theorem dX12_like_21 : decode cX12_like 21 = .ok (.ldc 55, 2) := by decide +kernel
theorem dX12_like_23 : decode cX12_like 23 = .ok (.ireturn, 1) := by decide +kernel
theorem dX12_like_24 : decode cX12_like 24 = .ok (.iconst 0, 1) := by decide +kernel
theorem dX12_like_25 : decode cX12_like 25 = .ok (.istore_n 3, 1) := by decide +kernel
theorem dX12_like_26 : decode cX12_like 26 = .ok (.iload_n 3, 1) := by decide +kernel
theorem dX12_like_27 : decode cX12_like 27 = .ok (.bipush 99, 2) := by decide +kernel
theorem dX12_like_29 : decode cX12_like 29 = .ok (.if_icmp .gt 38, 3) := by decide +kernel
theorem dX12_like_32 : decode cX12_like 32 = .ok (.aload_n 0, 1) := by decide +kernel
theorem dX12_like_33 : decode cX12_like 33 = .ok (.iload_n 1, 1) := by decide +kernel
theorem dX12_like_34 : decode cX12_like 34 = .ok (.iload_n 3, 1) := by decide +kernel
theorem dX12_like_35 : decode cX12_like 35 = .ok (.invokevirtual 183, 3) := by decide +kernel
theorem dX12_like_38 : decode cX12_like 38 = .ok (.aload_n 0, 1) := by decide +kernel
theorem dX12_like_39 : decode cX12_like 39 = .ok (.getfield 177, 3) := by decide +kernel
theorem dX12_like_42 : decode cX12_like 42 = .ok (.istore 4, 2) := by decide +kernel
theorem dX12_like_44 : decode cX12_like 44 = .ok (.aload_n 0, 1) := by decide +kernel
theorem dX12_like_45 : decode cX12_like 45 = .ok (.iload_n 2, 1) := by decide +kernel
theorem dX12_like_46 : decode cX12_like 46 = .ok (.iload_n 3, 1) := by decide +kernel
theorem dX12_like_47 : decode cX12_like 47 = .ok (.invokevirtual 183, 3) := by decide +kernel
theorem dX12_like_50 : decode cX12_like 50 = .ok (.iload 4, 2) := by decide +kernel
theorem dX12_like_52 : decode cX12_like 52 = .ok (.aload_n 0, 1) := by decide +kernel
theorem dX12_like_53 : decode cX12_like 53 = .ok (.getfield 177, 3) := by decide +kernel
theorem dX12_like_56 : decode cX12_like 56 = .ok (.if_icmp .ne 5, 3) := by decide +kernel
theorem dX12_like_59 : decode cX12_like 59 = .ok (.iload_n 3, 1) := by decide +kernel
theorem dX12_like_60 : decode cX12_like 60 = .ok (.ireturn, 1) := by decide +kernel
theorem dX12_like_61 : decode cX12_like 61 = .ok (.iinc 3 1, 3) := by decide +kernel
theorem dX12_like_64 : decode cX12_like 64 = .ok (.goto (-38), 3) := by decide +kernel
theorem dX12_like_67 : decode cX12_like 67 = .ok (.ldc 41, 2) := by decide +kernel
theorem dX12_like_69 : decode cX12_like 69 = .ok (.ireturn, 1) := by decide +kernel
theorem dX12_bits_0 : decode cX12_bits 0 = .ok (.iconst 0, 1) := by decide +kernel
theorem dX12_bits_1 : decode cX12_bits 1 = .ok (.istore_n 1, 1) := by decide +kernel
theorem dX12_bits_2 : decode cX12_bits 2 = .ok (.iconst 0, 1) := by decide +kernel
theorem dX12_bits_3 : decode cX12_bits 3 = .ok (.istore_n 2, 1) := by decide +kernel
theorem dX12_bits_4 : decode cX12_bits 4 = .ok (.iload_n 2, 1) := by decide +kernel
theorem dX12_bits_5 : decode cX12_bits 5 = .ok (.bipush 7, 2) := by decide +kernel
theorem dX12_bits_7 : decode cX12_bits 7 = .ok (.if_icmp .ge 17, 3) := by decide +kernel
theorem dX12_bits_10 : decode cX12_bits 10 = .ok (.iload_n 1, 1) := by decide +kernel
theorem dX12_bits_11 : decode cX12_bits 11 = .ok (.iload_n 0, 1) := by decide +kernel
theorem dX12_bits_12 : decode cX12_bits 12 = .ok (.iload_n 2, 1) := by decide +kernel
theorem dX12_bits_13 : decode cX12_bits 13 = .ok (.ishr, 1) := by decide +kernel
theorem dX12_bits_14 : decode cX12_bits 14 = .ok (.iconst 1, 1) := by decide +kernel
theorem dX12_bits_15 : decode cX12_bits 15 = .ok (.iand, 1) := by decide +kernel
theorem dX12_bits_16 : decode cX12_bits 16 = .ok (.iadd, 1) := by decide +kernel
theorem dX12_bits_17 : decode cX12_bits 17 = .ok (.istore_n 1, 1) := by decide +kernel
theorem dX12_bits_18 : decode cX12_bits 18 = .ok (.iinc 2 1, 3) := by decide +kernel
theorem dX12_bits_21 : decode cX12_bits 21 = .ok (.goto (-17), 3) := by decide +kernel
theorem dX12_bits_24 : decode cX12_bits 24 = .ok (.iload_n 1, 1) := by decide +kernel
theorem dX12_bits_25 : decode cX12_bits 25 = .ok (.ireturn, 1) := by decide +kernel
theorem dX12_areLike_0 : decode cX12_areLike 0 = .ok (.sipush 9999, 3) := by decide +kernel
theorem dX12_areLike_3 : decode cX12_areLike 3 = .ok (.istore_n 3, 1) := by decide +kernel
theorem dX12_areLike_4 : decode cX12_areLike 4 = .ok (.iconst 0, 1) := by decide +kernel
theorem dX12_areLike_5 : decode cX12_areLike 5 = .ok (.istore 4, 2) := by decide +kernel
theorem dX12_areLike_7 : decode cX12_areLike 7 = .ok (.iconst 0, 1) := by decide +kernel
theorem dX12_areLike_8 : decode cX12_areLike 8 = .ok (.istore 5, 2) := by decide +kernel
theorem dX12_areLike_10 : decode cX12_areLike 10 = .ok (.iload 5, 2) := by decide +kernel
theorem dX12_areLike_12 : decode cX12_areLike 12 = .ok (.aload_n 0, 1) := by decide +kernel
theorem dX12_areLike_13 : decode cX12_areLike 13 = .ok (.getfield 7, 3) := by decide +kernel
theorem dX12_areLike_16 : decode cX12_areLike 16 = .ok (.iconst 1, 1) := by decide +kernel
theorem dX12_areLike_17 : decode cX12_areLike 17 = .ok (.iaload, 1) := by decide +kernel
theorem dX12_areLike_18 : decode cX12_areLike 18 = .ok (.if_icmp .ge 93, 3) := by decide +kernel
theorem dX12_areLike_21 : decode cX12_areLike 21 = .ok (.iload_n 1, 1) := by decide +kernel
theorem dX12_areLike_22 : decode cX12_areLike 22 = .ok (.iload 5, 2) := by decide +kernel
theorem dX12_areLike_24 : decode cX12_areLike 24 = .ok (.invokestatic 173, 3) := by decide +kernel
theorem dX12_areLike_27 : decode cX12_areLike 27 = .ok (.ifCond .eq 7, 3) := by decide +kernel
theorem dX12_areLike_30 : decode cX12_areLike 30 = .ok (.iconst 0, 1) := by decide +kernel
theorem dX12_areLike_31 : decode cX12_areLike 31 = .ok (.goto 13, 3) := by decide +kernel
theorem dX12_areLike_34 : decode cX12_areLike 34 = .ok (.aload_n 0, 1) := by decide +kernel
theorem dX12_areLike_35 : decode cX12_areLike 35 = .ok (.getfield 7, 3) := by decide +kernel
theorem dX12_areLike_38 : decode cX12_areLike 38 = .ok (.bipush 26, 2) := by decide +kernel
theorem dX12_areLike_40 : decode cX12_areLike 40 = .ok (.iload 5, 2) := by decide +kernel
theorem dX12_areLike_42 : decode cX12_areLike 42 = .ok (.iadd, 1) := by decide +kernel
theorem dX12_areLike_43 : decode cX12_areLike 43 = .ok (.iaload, 1) := by decide +kernel
theorem dX12_areLike_44 : decode cX12_areLike 44 = .ok (.istore 6, 2) := by decide +kernel
theorem dX12_areLike_46 : decode cX12_areLike 46 = .ok (.aload_n 0, 1) := by decide +kernel
theorem dX12_areLike_47 : decode cX12_areLike 47 = .ok (.getfield 7, 3) := by decide +kernel
theorem dX12_areLike_50 : decode cX12_areLike 50 = .ok (.bipush 47, 2) := by decide +kernel
theorem dX12_areLike_52 : decode cX12_areLike 52 = .ok (.iload 5, 2) := by decide +kernel
theorem dX12_areLike_54 : decode cX12_areLike 54 = .ok (.iadd, 1) := by decide +kernel
theorem dX12_areLike_55 : decode cX12_areLike 55 = .ok (.iaload, 1) := by decide +kernel
theorem dX12_areLike_56 : decode cX12_areLike 56 = .ok (.ifCond .ne 7, 3) := by decide +kernel
theorem dX12_areLike_59 : decode cX12_areLike 59 = .ok (.iconst 1, 1) := by decide +kernel
theorem dX12_areLike_60 : decode cX12_areLike 60 = .ok (.goto 4, 3) := by decide +kernel
theorem dX12_areLike_63 : decode cX12_areLike 63 = .ok (.iconst 0, 1) := by decide +kernel
theorem dX12_areLike_64 : decode cX12_areLike 64 = .ok (.istore 7, 2) := by decide +kernel
theorem dX12_areLike_66 : decode cX12_areLike 66 = .ok (.iload 7, 2) := by decide +kernel
theorem dX12_areLike_68 : decode cX12_areLike 68 = .ok (.ifCond .eq 14, 3) := by decide +kernel
theorem dX12_areLike_71 : decode cX12_areLike 71 = .ok (.iload 6, 2) := by decide +kernel
theorem dX12_areLike_73 : decode cX12_areLike 73 = .ok (.iload_n 3, 1) := by decide +kernel
theorem dX12_areLike_74 : decode cX12_areLike 74 = .ok (.if_icmp .ge 8, 3) := by decide +kernel
theorem dX12_areLike_77 : decode cX12_areLike 77 = .ok (.iload 6, 2) := by decide +kernel
theorem dX12_areLike_79 : decode cX12_areLike 79 = .ok (.goto 4, 3) := by decide +kernel
theorem dX12_areLike_82 : decode cX12_areLike 82 = .ok (.iload_n 3, 1) := by decide +kernel
theorem dX12_areLike_83 : decode cX12_areLike 83 = .ok (.istore_n 3, 1) := by decide +kernel
theorem dX12_areLike_84 : decode cX12_areLike 84 = .ok (.iload 7, 2) := by decide +kernel
theorem dX12_areLike_86 : decode cX12_areLike 86 = .ok (.ifCond .eq 15, 3) := by decide +kernel
theorem dX12_areLike_89 : decode cX12_areLike 89 = .ok (.iload 6, 2) := by decide +kernel
theorem dX12_areLike_91 : decode cX12_areLike 91 = .ok (.iload 4, 2) := by decide +kernel
theorem dX12_areLike_93 : decode cX12_areLike 93 = .ok (.if_icmp .le 8, 3) := by decide +kernel
theorem dX12_areLike_96 : decode cX12_areLike 96 = .ok (.iload 6, 2) := by decide +kernel
theorem dX12_areLike_98 : decode cX12_areLike 98 = .ok (.goto 5, 3) := by decide +kernel
theorem dX12_areLike_101 : decode cX12_areLike 101 = .ok (.iload 4, 2) := by decide +kernel
theorem dX12_areLike_103 : decode cX12_areLike 103 = .ok (.istore 4, 2) := by decide +kernel
theorem dX12_areLike_105 : decode cX12_areLike 105 = .ok (.iinc 5 1, 3) := by decide +kernel
theorem dX12_areLike_108 : decode cX12_areLike 108 = .ok (.goto (-98), 3) := by decide +kernel
theorem dX12_areLike_111 : decode cX12_areLike 111 = .ok (.iload 4, 2) := by decide +kernel
theorem dX12_areLike_113 : decode cX12_areLike 113 = .ok (.iload_n 3, 1) := by decide +kernel
theorem dX12_areLike_114 : decode cX12_areLike 114 = .ok (.isub, 1) := by decide +kernel
theorem dX12_areLike_115 : decode cX12_areLike 115 = .ok (.iload_n 2, 1) := by decide +kernel
theorem dX12_areLike_116 : decode cX12_areLike 116 = .ok (.if_icmp .gt 7, 3) := by decide +kernel
theorem dX12_areLike_119 : decode cX12_areLike 119 = .ok (.iconst 1, 1) := by decide +kernel
theorem dX12_areLike_120 : decode cX12_areLike 120 = .ok (.goto 4, 3) := by decide +kernel
theorem dX12_areLike_123 : decode cX12_areLike 123 = .ok (.iconst 0, 1) := by decide +kernel
theorem dX12_areLike_124 : decode cX12_areLike 124 = .ok (.ireturn, 1) := by decide +kernel
theorem dX12_hide_0 : decode cX12_hide 0 = .ok (.aload_n 0, 1) := by decide +kernel
theorem dX12_hide_1 : decode cX12_hide 1 = .ok (.invokevirtual 149, 3) := by decide +kernel
theorem dX12_hide_4 : decode cX12_hide 4 = .ok (.ifCond .ne 6, 3) := by decide +kernel
theorem dX12_hide_7 : decode cX12_hide 7 = .ok (.ldc 153, 2) := by decide +kernel
theorem dX12_hide_9 : decode cX12_hide 9 = .ok (.ireturn, 1) := by decide +kernel
theorem dX12_hide_10 : decode cX12_hide 10 = .ok (.iload_n 1, 1) := by decide +kernel
theorem dX12_hide_11 : decode cX12_hide 11 = .ok (.iconst 0, 1) := by decide +kernel
theorem dX12_hide_12 : decode cX12_hide 12 = .ok (.sipush 9999, 3) := by decide +kernel
theorem dX12_hide_15 : decode cX12_hide 15 = .ok (.invokestatic 47, 3) := by decide +kernel
theorem dX12_hide_18 : decode cX12_hide 18 = .ok (.ifCond .ne 6, 3) := by decide +kernel
theorem dX12_hide_21 : decode cX12_hide 21 = .ok (.ldc 55, 2) := by decide +kernel
theorem dX12_hide_23 : decode cX12_hide 23 = .ok (.ireturn, 1) := by decide +kernel
theorem dX12_hide_24 : decode cX12_hide 24 = .ok (.iconst 1, 1) := by decide +kernel
theorem dX12_hide_25 : decode cX12_hide 25 = .ok (.aload_n 0, 1) := by decide +kernel
theorem dX12_hide_26 : decode cX12_hide 26 = .ok (.getfield 7, 3) := by decide +kernel
theorem dX12_hide_29 : decode cX12_hide 29 = .ok (.iconst 1, 1) := by decide +kernel
theorem dX12_hide_30 : decode cX12_hide 30 = .ok (.iaload, 1) := by decide +kernel
theorem dX12_hide_31 : decode cX12_hide 31 = .ok (.ishl, 1) := by decide +kernel
theorem dX12_hide_32 : decode cX12_hide 32 = .ok (.iconst 1, 1) := by decide +kernel
theorem dX12_hide_33 : decode cX12_hide 33 = .ok (.isub, 1) := by decide +kernel
theorem dX12_hide_34 : decode cX12_hide 34 = .ok (.istore_n 2, 1) := by decide +kernel
theorem dX12_hide_35 : decode cX12_hide 35 = .ok (.iload_n 2, 1) := by decide +kernel
theorem dX12_hide_36 : decode cX12_hide 36 = .ok (.istore_n 3, 1) := by decide +kernel
theorem dX12_hide_37 : decode cX12_hide 37 = .ok (.iload_n 3, 1) := by decide +kernel
theorem dX12_hide_38 : decode cX12_hide 38 = .ok (.ifCond .lt 35, 3) := by decide +kernel
theorem dX12_hide_41 : decode cX12_hide 41 = .ok (.iload_n 3, 1) := by decide +kernel
theorem dX12_hide_42 : decode cX12_hide 42 = .ok (.invokestatic 200, 3) := by decide +kernel
theorem dX12_hide_45 : decode cX12_hide 45 = .ok (.iload_n 2, 1) := by decide +kernel
theorem dX12_hide_46 : decode cX12_hide 46 = .ok (.invokestatic 200, 3) := by decide +kernel
theorem dX12_hide_49 : decode cX12_hide 49 = .ok (.if_icmp .gt 16, 3) := by decide +kernel
theorem dX12_hide_52 : decode cX12_hide 52 = .ok (.aload_n 0, 1) := by decide +kernel
theorem dX12_hide_53 : decode cX12_hide 53 = .ok (.iload_n 3, 1) := by decide +kernel
theorem dX12_hide_54 : decode cX12_hide 54 = .ok (.iload_n 1, 1) := by decide +kernel
theorem dX12_hide_55 : decode cX12_hide 55 = .ok (.invokevirtual 203, 3) := by decide +kernel
theorem dX12_hide_58 : decode cX12_hide 58 = .ok (.ifCond .eq 7, 3) := by decide +kernel
theorem dX12_hide_61 : decode cX12_hide 61 = .ok (.iload_n 3, 1) := by decide +kernel
theorem dX12_hide_62 : decode cX12_hide 62 = .ok (.goto 4, 3) := by decide +kernel
theorem dX12_hide_65 : decode cX12_hide 65 = .ok (.iload_n 2, 1) := by decide +kernel
theorem dX12_hide_66 : decode cX12_hide 66 = .ok (.istore_n 2, 1) := by decide +kernel
theorem dX12_hide_67 : decode cX12_hide 67 = .ok (.iinc 3 (-1), 3) := by decide +kernel
theorem dX12_hide_70 : decode cX12_hide 70 = .ok (.goto (-33), 3) := by decide +kernel
theorem dX12_hide_73 : decode cX12_hide 73 = .ok (.iload_n 2, 1) := by decide +kernel
theorem dX12_hide_74 : decode cX12_hide 74 = .ok (.ireturn, 1) := by decide +kernel
theorem dX12_learnt_0 : decode cX12_learnt 0 = .ok (.iload_n 1, 1) := by decide +kernel
theorem dX12_learnt_1 : decode cX12_learnt 1 = .ok (.invokestatic 51, 3) := by decide +kernel
theorem dX12_learnt_4 : decode cX12_learnt 4 = .ok (.ifCond .eq 22, 3) := by decide +kernel
theorem dX12_learnt_7 : decode cX12_learnt 7 = .ok (.iload_n 3, 1) := by decide +kernel
theorem dX12_learnt_8 : decode cX12_learnt 8 = .ok (.iconst 1, 1) := by decide +kernel
theorem dX12_learnt_9 : decode cX12_learnt 9 = .ok (.bipush 20, 2) := by decide +kernel
theorem dX12_learnt_11 : decode cX12_learnt 11 = .ok (.invokestatic 47, 3) := by decide +kernel
theorem dX12_learnt_14 : decode cX12_learnt 14 = .ok (.ifCond .eq 12, 3) := by decide +kernel
theorem dX12_learnt_17 : decode cX12_learnt 17 = .ok (.aload_n 0, 1) := by decide +kernel
theorem dX12_learnt_18 : decode cX12_learnt 18 = .ok (.iload 4, 2) := by decide +kernel
theorem dX12_learnt_20 : decode cX12_learnt 20 = .ok (.invokevirtual 167, 3) := by decide +kernel
theorem dX12_learnt_23 : decode cX12_learnt 23 = .ok (.ifCond .ne 6, 3) := by decide +kernel
theorem dX12_learnt_26 : decode cX12_learnt 26 = .ok (.ldc 55, 2) := by decide +kernel
theorem dX12_learnt_28 : decode cX12_learnt 28 = .ok (.ireturn, 1) := by decide +kernel
theorem dX12_learnt_29 : decode cX12_learnt 29 = .ok (.aload_n 0, 1) := by decide +kernel
theorem dX12_learnt_30 : decode cX12_learnt 30 = .ok (.getfield 7, 3) := by decide +kernel
theorem dX12_learnt_33 : decode cX12_learnt 33 = .ok (.bipush 47, 2) := by decide +kernel
theorem dX12_learnt_35 : decode cX12_learnt 35 = .ok (.iload 4, 2) := by decide +kernel
theorem dX12_learnt_37 : decode cX12_learnt 37 = .ok (.iadd, 1) := by decide +kernel
theorem dX12_learnt_38 : decode cX12_learnt 38 = .ok (.iaload, 1) := by decide +kernel
theorem dX12_learnt_39 : decode cX12_learnt 39 = .ok (.ifCond .le 6, 3) := by decide +kernel
theorem dX12_learnt_42 : decode cX12_learnt 42 = .ok (.ldc 153, 2) := by decide +kernel
theorem dX12_learnt_44 : decode cX12_learnt 44 = .ok (.ireturn, 1) := by decide +kernel
theorem dX12_learnt_45 : decode cX12_learnt 45 = .ok (.aload_n 0, 1) := by decide +kernel
theorem dX12_learnt_46 : decode cX12_learnt 46 = .ok (.getfield 23, 3) := by decide +kernel
theorem dX12_learnt_49 : decode cX12_learnt 49 = .ok (.iload_n 1, 1) := by decide +kernel
theorem dX12_learnt_50 : decode cX12_learnt 50 = .ok (.iaload, 1) := by decide +kernel
theorem dX12_learnt_51 : decode cX12_learnt 51 = .ok (.ldc 41, 2) := by decide +kernel
theorem dX12_learnt_53 : decode cX12_learnt 53 = .ok (.if_icmp .ne 9, 3) := by decide +kernel
theorem dX12_learnt_56 : decode cX12_learnt 56 = .ok (.aload_n 0, 1) := by decide +kernel
theorem dX12_learnt_57 : decode cX12_learnt 57 = .ok (.iconst 1, 1) := by decide +kernel
theorem dX12_learnt_58 : decode cX12_learnt 58 = .ok (.invokevirtual 56, 3) := by decide +kernel
theorem dX12_learnt_61 : decode cX12_learnt 61 = .ok (.ireturn, 1) := by decide +kernel
theorem dX12_learnt_62 : decode cX12_learnt 62 = .ok (.aload_n 0, 1) := by decide +kernel
theorem dX12_learnt_63 : decode cX12_learnt 63 = .ok (.iload_n 1, 1) := by decide +kernel
theorem dX12_learnt_64 : decode cX12_learnt 64 = .ok (.iload_n 2, 1) := by decide +kernel
theorem dX12_learnt_65 : decode cX12_learnt 65 = .ok (.iload_n 3, 1) := by decide +kernel
theorem dX12_learnt_66 : decode cX12_learnt 66 = .ok (.invokevirtual 63, 3) := by decide +kernel
theorem dX12_learnt_69 : decode cX12_learnt 69 = .ok (.ifCond .ne 9, 3) := by decide +kernel
theorem dX12_learnt_72 : decode cX12_learnt 72 = .ok (.aload_n 0, 1) := by decide +kernel
theorem dX12_learnt_73 : decode cX12_learnt 73 = .ok (.iconst 2, 1) := by decide +kernel
theorem dX12_learnt_74 : decode cX12_learnt 74 = .ok (.invokevirtual 56, 3) := by decide +kernel
theorem dX12_learnt_77 : decode cX12_learnt 77 = .ok (.ireturn, 1) := by decide +kernel
theorem dX12_learnt_78 : decode cX12_learnt 78 = .ok (.ldc 41, 2) := by decide +kernel
theorem dX12_learnt_80 : decode cX12_learnt 80 = .ok (.istore 5, 2) := by decide +kernel
theorem dX12_learnt_82 : decode cX12_learnt 82 = .ok (.iconst 5, 1) := by decide +kernel
theorem dX12_learnt_83 : decode cX12_learnt 83 = .ok (.istore 6, 2) := by decide +kernel
theorem dX12_learnt_85 : decode cX12_learnt 85 = .ok (.iload 6, 2) := by decide +kernel
theorem dX12_learnt_87 : decode cX12_learnt 87 = .ok (.ifCond .le 110, 3) := by decide +kernel
theorem dX12_learnt_90 : decode cX12_learnt 90 = .ok (.aload_n 0, 1) := by decide +kernel
theorem dX12_learnt_91 : decode cX12_learnt 91 = .ok (.getfield 7, 3) := by decide +kernel
theorem dX12_learnt_94 : decode cX12_learnt 94 = .ok (.bipush 26, 2) := by decide +kernel
theorem dX12_learnt_96 : decode cX12_learnt 96 = .ok (.iload 4, 2) := by decide +kernel
theorem dX12_learnt_98 : decode cX12_learnt 98 = .ok (.iadd, 1) := by decide +kernel
theorem dX12_learnt_99 : decode cX12_learnt 99 = .ok (.iaload, 1) := by decide +kernel
theorem dX12_learnt_100 : decode cX12_learnt 100 = .ok (.istore 7, 2) := by decide +kernel
theorem dX12_learnt_102 : decode cX12_learnt 102 = .ok (.iconst 1, 1) := by decide +kernel
theorem dX12_learnt_103 : decode cX12_learnt 103 = .ok (.istore 8, 2) := by decide +kernel
theorem dX12_learnt_105 : decode cX12_learnt 105 = .ok (.iconst 0, 1) := by decide +kernel
theorem dX12_learnt_106 : decode cX12_learnt 106 = .ok (.istore 9, 2) := by decide +kernel
theorem dX12_learnt_108 : decode cX12_learnt 108 = .ok (.iload 9, 2) := by decide +kernel
theorem dX12_learnt_110 : decode cX12_learnt 110 = .ok (.iload_n 3, 1) := by decide +kernel
theorem dX12_learnt_111 : decode cX12_learnt 111 = .ok (.if_icmp .ge 66, 3) := by decide +kernel
theorem dX12_learnt_114 : decode cX12_learnt 114 = .ok (.iload 7, 2) := by decide +kernel
theorem dX12_learnt_116 : decode cX12_learnt 116 = .ok (.aload_n 0, 1) := by decide +kernel
theorem dX12_learnt_117 : decode cX12_learnt 117 = .ok (.iload 4, 2) := by decide +kernel
theorem dX12_learnt_119 : decode cX12_learnt 119 = .ok (.aload_n 0, 1) := by decide +kernel
theorem dX12_learnt_120 : decode cX12_learnt 120 = .ok (.getfield 7, 3) := by decide +kernel
theorem dX12_learnt_123 : decode cX12_learnt 123 = .ok (.bipush 25, 2) := by decide +kernel
theorem dX12_learnt_125 : decode cX12_learnt 125 = .ok (.iaload, 1) := by decide +kernel
theorem dX12_learnt_126 : decode cX12_learnt 126 = .ok (.iload 9, 2) := by decide +kernel
theorem dX12_learnt_128 : decode cX12_learnt 128 = .ok (.iadd, 1) := by decide +kernel
theorem dX12_learnt_129 : decode cX12_learnt 129 = .ok (.iload 6, 2) := by decide +kernel
theorem dX12_learnt_131 : decode cX12_learnt 131 = .ok (.invokevirtual 146, 3) := by decide +kernel
theorem dX12_learnt_134 : decode cX12_learnt 134 = .ok (.iadd, 1) := by decide +kernel
theorem dX12_learnt_135 : decode cX12_learnt 135 = .ok (.invokestatic 161, 3) := by decide +kernel
theorem dX12_learnt_138 : decode cX12_learnt 138 = .ok (.istore 7, 2) := by decide +kernel
theorem dX12_learnt_140 : decode cX12_learnt 140 = .ok (.iload 8, 2) := by decide +kernel
theorem dX12_learnt_142 : decode cX12_learnt 142 = .ok (.ifCond .eq 26, 3) := by decide +kernel
theorem dX12_learnt_145 : decode cX12_learnt 145 = .ok (.aload_n 0, 1) := by decide +kernel
theorem dX12_learnt_146 : decode cX12_learnt 146 = .ok (.getfield 29, 3) := by decide +kernel
theorem dX12_learnt_149 : decode cX12_learnt 149 = .ok (.bipush 40, 2) := by decide +kernel
theorem dX12_learnt_151 : decode cX12_learnt 151 = .ok (.iload_n 1, 1) := by decide +kernel
theorem dX12_learnt_152 : decode cX12_learnt 152 = .ok (.imul, 1) := by decide +kernel
theorem dX12_learnt_153 : decode cX12_learnt 153 = .ok (.iload_n 2, 1) := by decide +kernel
theorem dX12_learnt_154 : decode cX12_learnt 154 = .ok (.iadd, 1) := by decide +kernel
theorem dX12_learnt_155 : decode cX12_learnt 155 = .ok (.iload 9, 2) := by decide +kernel
theorem dX12_learnt_157 : decode cX12_learnt 157 = .ok (.iadd, 1) := by decide +kernel
theorem dX12_learnt_158 : decode cX12_learnt 158 = .ok (.iaload, 1) := by decide +kernel
theorem dX12_learnt_159 : decode cX12_learnt 159 = .ok (.iload 7, 2) := by decide +kernel
theorem dX12_learnt_161 : decode cX12_learnt 161 = .ok (.if_icmp .ne 7, 3) := by decide +kernel
theorem dX12_learnt_164 : decode cX12_learnt 164 = .ok (.iconst 1, 1) := by decide +kernel
theorem dX12_learnt_165 : decode cX12_learnt 165 = .ok (.goto 4, 3) := by decide +kernel
theorem dX12_learnt_168 : decode cX12_learnt 168 = .ok (.iconst 0, 1) := by decide +kernel
theorem dX12_learnt_169 : decode cX12_learnt 169 = .ok (.istore 8, 2) := by decide +kernel
theorem dX12_learnt_171 : decode cX12_learnt 171 = .ok (.iinc 9 1, 3) := by decide +kernel
theorem dX12_learnt_174 : decode cX12_learnt 174 = .ok (.goto (-66), 3) := by decide +kernel
theorem dX12_learnt_177 : decode cX12_learnt 177 = .ok (.iload 8, 2) := by decide +kernel
theorem dX12_learnt_179 : decode cX12_learnt 179 = .ok (.ifCond .eq 8, 3) := by decide +kernel
theorem dX12_learnt_182 : decode cX12_learnt 182 = .ok (.iload 6, 2) := by decide +kernel
theorem dX12_learnt_184 : decode cX12_learnt 184 = .ok (.goto 5, 3) := by decide +kernel
theorem dX12_learnt_187 : decode cX12_learnt 187 = .ok (.iload 5, 2) := by decide +kernel
theorem dX12_learnt_189 : decode cX12_learnt 189 = .ok (.istore 5, 2) := by decide +kernel
theorem dX12_learnt_191 : decode cX12_learnt 191 = .ok (.iinc 6 (-1), 3) := by decide +kernel
theorem dX12_learnt_194 : decode cX12_learnt 194 = .ok (.goto (-109), 3) := by decide +kernel
theorem dX12_learnt_197 : decode cX12_learnt 197 = .ok (.aload_n 0, 1) := by decide +kernel
theorem dX12_learnt_198 : decode cX12_learnt 198 = .ok (.iload 5, 2) := by decide +kernel
theorem dX12_learnt_200 : decode cX12_learnt 200 = .ok (.invokevirtual 60, 3) := by decide +kernel
theorem dX12_learnt_203 : decode cX12_learnt 203 = .ok (.ireturn, 1) := by decide +kernel
theorem dX12_image_0 : decode cX12_image 0 = .ok (.iload_n 1, 1) := by decide +kernel
theorem dX12_image_1 : decode cX12_image 1 = .ok (.iconst 0, 1) := by decide +kernel
theorem dX12_image_2 : decode cX12_image 2 = .ok (.iconst 1, 1) := by decide +kernel
theorem dX12_image_3 : decode cX12_image 3 = .ok (.invokestatic 47, 3) := by decide +kernel
theorem dX12_image_6 : decode cX12_image 6 = .ok (.ifCond .ne 6, 3) := by decide +kernel
theorem dX12_image_9 : decode cX12_image 9 = .ok (.ldc 55, 2) := by decide +kernel
theorem dX12_image_11 : decode cX12_image 11 = .ok (.ireturn, 1) := by decide +kernel
theorem dX12_image_12 : decode cX12_image 12 = .ok (.aload_n 0, 1) := by decide +kernel
theorem dX12_image_13 : decode cX12_image 13 = .ok (.invokevirtual 149, 3) := by decide +kernel
theorem dX12_image_16 : decode cX12_image 16 = .ok (.ifCond .ne 6, 3) := by decide +kernel
theorem dX12_image_19 : decode cX12_image 19 = .ok (.ldc 153, 2) := by decide +kernel
theorem dX12_image_21 : decode cX12_image 21 = .ok (.ireturn, 1) := by decide +kernel
theorem dX12_image_22 : decode cX12_image 22 = .ok (.iconst 0, 1) := by decide +kernel
theorem dX12_image_23 : decode cX12_image 23 = .ok (.istore_n 2, 1) := by decide +kernel
theorem dX12_image_24 : decode cX12_image 24 = .ok (.iload_n 2, 1) := by decide +kernel
theorem dX12_image_25 : decode cX12_image 25 = .ok (.bipush 54, 2) := by decide +kernel
theorem dX12_image_27 : decode cX12_image 27 = .ok (.if_icmp .ge 26, 3) := by decide +kernel
theorem dX12_image_30 : decode cX12_image 30 = .ok (.aload_n 0, 1) := by decide +kernel
theorem dX12_image_31 : decode cX12_image 31 = .ok (.getfield 13, 3) := by decide +kernel
theorem dX12_image_34 : decode cX12_image 34 = .ok (.bipush 54, 2) := by decide +kernel
theorem dX12_image_36 : decode cX12_image 36 = .ok (.iload_n 1, 1) := by decide +kernel
theorem dX12_image_37 : decode cX12_image 37 = .ok (.imul, 1) := by decide +kernel
theorem dX12_image_38 : decode cX12_image 38 = .ok (.iload_n 2, 1) := by decide +kernel
theorem dX12_image_39 : decode cX12_image 39 = .ok (.iadd, 1) := by decide +kernel
theorem dX12_image_40 : decode cX12_image 40 = .ok (.aload_n 0, 1) := by decide +kernel
theorem dX12_image_41 : decode cX12_image 41 = .ok (.getfield 7, 3) := by decide +kernel
theorem dX12_image_44 : decode cX12_image 44 = .ok (.iload_n 2, 1) := by decide +kernel
theorem dX12_image_45 : decode cX12_image 45 = .ok (.iaload, 1) := by decide +kernel
theorem dX12_image_46 : decode cX12_image 46 = .ok (.iastore, 1) := by decide +kernel
theorem dX12_image_47 : decode cX12_image 47 = .ok (.iinc 2 1, 3) := by decide +kernel
theorem dX12_image_50 : decode cX12_image 50 = .ok (.goto (-26), 3) := by decide +kernel
theorem dX12_image_53 : decode cX12_image 53 = .ok (.aload_n 0, 1) := by decide +kernel
theorem dX12_image_54 : decode cX12_image 54 = .ok (.getfield 16, 3) := by decide +kernel
theorem dX12_image_57 : decode cX12_image 57 = .ok (.iload_n 1, 1) := by decide +kernel
theorem dX12_image_58 : decode cX12_image 58 = .ok (.iconst 1, 1) := by decide +kernel
theorem dX12_image_59 : decode cX12_image 59 = .ok (.bastore, 1) := by decide +kernel
theorem dX12_image_60 : decode cX12_image 60 = .ok (.iconst 1, 1) := by decide +kernel
theorem dX12_image_61 : decode cX12_image 61 = .ok (.ireturn, 1) := by decide +kernel
theorem dX12_restore_0 : decode cX12_restore 0 = .ok (.iload_n 1, 1) := by decide +kernel
theorem dX12_restore_1 : decode cX12_restore 1 = .ok (.iconst 0, 1) := by decide +kernel
theorem dX12_restore_2 : decode cX12_restore 2 = .ok (.iconst 1, 1) := by decide +kernel
theorem dX12_restore_3 : decode cX12_restore 3 = .ok (.invokestatic 47, 3) := by decide +kernel
theorem dX12_restore_6 : decode cX12_restore 6 = .ok (.ifCond .ne 6, 3) := by decide +kernel
theorem dX12_restore_9 : decode cX12_restore 9 = .ok (.ldc 55, 2) := by decide +kernel
theorem dX12_restore_11 : decode cX12_restore 11 = .ok (.ireturn, 1) := by decide +kernel
theorem dX12_restore_12 : decode cX12_restore 12 = .ok (.aload_n 0, 1) := by decide +kernel
theorem dX12_restore_13 : decode cX12_restore 13 = .ok (.getfield 16, 3) := by decide +kernel
theorem dX12_restore_16 : decode cX12_restore 16 = .ok (.iload_n 1, 1) := by decide +kernel
theorem dX12_restore_17 : decode cX12_restore 17 = .ok (.baload, 1) := by decide +kernel
theorem dX12_restore_18 : decode cX12_restore 18 = .ok (.ifCond .ne 6, 3) := by decide +kernel
theorem dX12_restore_21 : decode cX12_restore 21 = .ok (.ldc 153, 2) := by decide +kernel
theorem dX12_restore_23 : decode cX12_restore 23 = .ok (.ireturn, 1) := by decide +kernel
theorem dX12_restore_24 : decode cX12_restore 24 = .ok (.iconst 0, 1) := by decide +kernel
theorem dX12_restore_25 : decode cX12_restore 25 = .ok (.istore_n 2, 1) := by decide +kernel
theorem dX12_restore_26 : decode cX12_restore 26 = .ok (.iload_n 2, 1) := by decide +kernel
theorem dX12_restore_27 : decode cX12_restore 27 = .ok (.bipush 54, 2) := by decide +kernel
theorem dX12_restore_29 : decode cX12_restore 29 = .ok (.if_icmp .ge 26, 3) := by decide +kernel
theorem dX12_restore_32 : decode cX12_restore 32 = .ok (.aload_n 0, 1) := by decide +kernel
theorem dX12_restore_33 : decode cX12_restore 33 = .ok (.getfield 7, 3) := by decide +kernel
theorem dX12_restore_36 : decode cX12_restore 36 = .ok (.iload_n 2, 1) := by decide +kernel
theorem dX12_restore_37 : decode cX12_restore 37 = .ok (.aload_n 0, 1) := by decide +kernel
theorem dX12_restore_38 : decode cX12_restore 38 = .ok (.getfield 13, 3) := by decide +kernel
theorem dX12_restore_41 : decode cX12_restore 41 = .ok (.bipush 54, 2) := by decide +kernel
theorem dX12_restore_43 : decode cX12_restore 43 = .ok (.iload_n 1, 1) := by decide +kernel
theorem dX12_restore_44 : decode cX12_restore 44 = .ok (.imul, 1) := by decide +kernel
theorem dX12_restore_45 : decode cX12_restore 45 = .ok (.iload_n 2, 1) := by decide +kernel
theorem dX12_restore_46 : decode cX12_restore 46 = .ok (.iadd, 1) := by decide +kernel
theorem dX12_restore_47 : decode cX12_restore 47 = .ok (.iaload, 1) := by decide +kernel
theorem dX12_restore_48 : decode cX12_restore 48 = .ok (.iastore, 1) := by decide +kernel
theorem dX12_restore_49 : decode cX12_restore 49 = .ok (.iinc 2 1, 3) := by decide +kernel
theorem dX12_restore_52 : decode cX12_restore 52 = .ok (.goto (-26), 3) := by decide +kernel
theorem dX12_restore_55 : decode cX12_restore 55 = .ok (.aload_n 0, 1) := by decide +kernel
theorem dX12_restore_56 : decode cX12_restore 56 = .ok (.iconst 0, 1) := by decide +kernel
theorem dX12_restore_57 : decode cX12_restore 57 = .ok (.putfield 143, 3) := by decide +kernel
theorem dX12_restore_60 : decode cX12_restore 60 = .ok (.iconst 1, 1) := by decide +kernel
theorem dX12_restore_61 : decode cX12_restore 61 = .ok (.ireturn, 1) := by decide +kernel
theorem dX12_kind_0 : decode cX12_kind 0 = .ok (.aload_n 0, 1) := by decide +kernel
theorem dX12_kind_1 : decode cX12_kind 1 = .ok (.iload_n 1, 1) := by decide +kernel
theorem dX12_kind_2 : decode cX12_kind 2 = .ok (.invokevirtual 167, 3) := by decide +kernel
theorem dX12_kind_5 : decode cX12_kind 5 = .ok (.ifCond .eq 14, 3) := by decide +kernel
theorem dX12_kind_8 : decode cX12_kind 8 = .ok (.aload_n 0, 1) := by decide +kernel
theorem dX12_kind_9 : decode cX12_kind 9 = .ok (.getfield 7, 3) := by decide +kernel
theorem dX12_kind_12 : decode cX12_kind 12 = .ok (.iconst 3, 1) := by decide +kernel
theorem dX12_kind_13 : decode cX12_kind 13 = .ok (.iload_n 1, 1) := by decide +kernel
theorem dX12_kind_14 : decode cX12_kind 14 = .ok (.iadd, 1) := by decide +kernel
theorem dX12_kind_15 : decode cX12_kind 15 = .ok (.iaload, 1) := by decide +kernel
theorem dX12_kind_16 : decode cX12_kind 16 = .ok (.goto 5, 3) := by decide +kernel
theorem dX12_kind_19 : decode cX12_kind 19 = .ok (.ldc 55, 2) := by decide +kernel
theorem dX12_kind_21 : decode cX12_kind 21 = .ok (.ireturn, 1) := by decide +kernel
theorem dX12_isA_0 : decode cX12_isA 0 = .ok (.iload_n 1, 1) := by decide +kernel
theorem dX12_isA_1 : decode cX12_isA 1 = .ok (.ifCond .eq 32, 3) := by decide +kernel
theorem dX12_isA_4 : decode cX12_isA 4 = .ok (.iload_n 0, 1) := by decide +kernel
theorem dX12_isA_5 : decode cX12_isA 5 = .ok (.iload_n 1, 1) := by decide +kernel
theorem dX12_isA_6 : decode cX12_isA 6 = .ok (.if_icmp .eq 27, 3) := by decide +kernel
theorem dX12_isA_9 : decode cX12_isA 9 = .ok (.iload_n 1, 1) := by decide +kernel
theorem dX12_isA_10 : decode cX12_isA 10 = .ok (.iconst 1, 1) := by decide +kernel
theorem dX12_isA_11 : decode cX12_isA 11 = .ok (.if_icmp .ne 12, 3) := by decide +kernel
theorem dX12_isA_14 : decode cX12_isA 14 = .ok (.iload_n 0, 1) := by decide +kernel
theorem dX12_isA_15 : decode cX12_isA 15 = .ok (.iconst 2, 1) := by decide +kernel
theorem dX12_isA_16 : decode cX12_isA 16 = .ok (.iconst 3, 1) := by decide +kernel
theorem dX12_isA_17 : decode cX12_isA 17 = .ok (.invokestatic 47, 3) := by decide +kernel
theorem dX12_isA_20 : decode cX12_isA 20 = .ok (.ifCond .ne 13, 3) := by decide +kernel
theorem dX12_isA_23 : decode cX12_isA 23 = .ok (.iload_n 1, 1) := by decide +kernel
theorem dX12_isA_24 : decode cX12_isA 24 = .ok (.iconst 4, 1) := by decide +kernel
theorem dX12_isA_25 : decode cX12_isA 25 = .ok (.if_icmp .ne 12, 3) := by decide +kernel
theorem dX12_isA_28 : decode cX12_isA 28 = .ok (.iload_n 0, 1) := by decide +kernel
theorem dX12_isA_29 : decode cX12_isA 29 = .ok (.iconst 5, 1) := by decide +kernel
theorem dX12_isA_30 : decode cX12_isA 30 = .ok (.if_icmp .ne 7, 3) := by decide +kernel
theorem dX12_isA_33 : decode cX12_isA 33 = .ok (.iconst 1, 1) := by decide +kernel
theorem dX12_isA_34 : decode cX12_isA 34 = .ok (.goto 4, 3) := by decide +kernel
theorem dX12_isA_37 : decode cX12_isA 37 = .ok (.iconst 0, 1) := by decide +kernel
theorem dX12_isA_38 : decode cX12_isA 38 = .ok (.ireturn, 1) := by decide +kernel
theorem dX12_as_0 : decode cX12_as 0 = .ok (.aload_n 0, 1) := by decide +kernel
theorem dX12_as_1 : decode cX12_as 1 = .ok (.iload_n 1, 1) := by decide +kernel
theorem dX12_as_2 : decode cX12_as 2 = .ok (.invokevirtual 167, 3) := by decide +kernel
theorem dX12_as_5 : decode cX12_as 5 = .ok (.ifCond .eq 12, 3) := by decide +kernel
theorem dX12_as_8 : decode cX12_as 8 = .ok (.iload_n 2, 1) := by decide +kernel
theorem dX12_as_9 : decode cX12_as 9 = .ok (.iconst 0, 1) := by decide +kernel
theorem dX12_as_10 : decode cX12_as 10 = .ok (.iconst 5, 1) := by decide +kernel
theorem dX12_as_11 : decode cX12_as 11 = .ok (.invokestatic 47, 3) := by decide +kernel
theorem dX12_as_14 : decode cX12_as 14 = .ok (.ifCond .ne 6, 3) := by decide +kernel
theorem dX12_as_17 : decode cX12_as 17 = .ok (.ldc 55, 2) := by decide +kernel
theorem dX12_as_19 : decode cX12_as 19 = .ok (.ireturn, 1) := by decide +kernel
theorem dX12_as_20 : decode cX12_as 20 = .ok (.aload_n 0, 1) := by decide +kernel
theorem dX12_as_21 : decode cX12_as 21 = .ok (.getfield 7, 3) := by decide +kernel
theorem dX12_as_24 : decode cX12_as 24 = .ok (.iconst 3, 1) := by decide +kernel
theorem dX12_as_25 : decode cX12_as 25 = .ok (.iload_n 1, 1) := by decide +kernel
theorem dX12_as_26 : decode cX12_as 26 = .ok (.iadd, 1) := by decide +kernel
theorem dX12_as_27 : decode cX12_as 27 = .ok (.iaload, 1) := by decide +kernel
theorem dX12_as_28 : decode cX12_as 28 = .ok (.iload_n 2, 1) := by decide +kernel
theorem dX12_as_29 : decode cX12_as 29 = .ok (.invokestatic 206, 3) := by decide +kernel
theorem dX12_as_32 : decode cX12_as 32 = .ok (.ifCond .eq 11, 3) := by decide +kernel
theorem dX12_as_35 : decode cX12_as 35 = .ok (.aload_n 0, 1) := by decide +kernel
theorem dX12_as_36 : decode cX12_as 36 = .ok (.iload_n 1, 1) := by decide +kernel
theorem dX12_as_37 : decode cX12_as 37 = .ok (.invokevirtual 60, 3) := by decide +kernel
theorem dX12_as_40 : decode cX12_as 40 = .ok (.goto 8, 3) := by decide +kernel
theorem dX12_as_43 : decode cX12_as 43 = .ok (.aload_n 0, 1) := by decide +kernel
theorem dX12_as_44 : decode cX12_as 44 = .ok (.iconst 3, 1) := by decide +kernel
theorem dX12_as_45 : decode cX12_as 45 = .ok (.invokevirtual 56, 3) := by decide +kernel
theorem dX12_as_48 : decode cX12_as 48 = .ok (.ireturn, 1) := by decide +kernel
theorem dX12_begins_0 : decode cX12_begins 0 = .ok (.aload_n 0, 1) := by decide +kernel
theorem dX12_begins_1 : decode cX12_begins 1 = .ok (.getfield 209, 3) := by decide +kernel
theorem dX12_begins_4 : decode cX12_begins 4 = .ok (.bipush 16, 2) := by decide +kernel
theorem dX12_begins_6 : decode cX12_begins 6 = .ok (.if_icmp .ge 23, 3) := by decide +kernel
theorem dX12_begins_9 : decode cX12_begins 9 = .ok (.aload_n 0, 1) := by decide +kernel
theorem dX12_begins_10 : decode cX12_begins 10 = .ok (.getfield 38, 3) := by decide +kernel
theorem dX12_begins_13 : decode cX12_begins 13 = .ok (.aload_n 0, 1) := by decide +kernel
theorem dX12_begins_14 : decode cX12_begins 14 = .ok (.getfield 209, 3) := by decide +kernel
theorem dX12_begins_17 : decode cX12_begins 17 = .ok (.iload_n 1, 1) := by decide +kernel
theorem dX12_begins_18 : decode cX12_begins 18 = .ok (.iastore, 1) := by decide +kernel
theorem dX12_begins_19 : decode cX12_begins 19 = .ok (.aload_n 0, 1) := by decide +kernel
theorem dX12_begins_20 : decode cX12_begins 20 = .ok (.dup, 1) := by decide +kernel
theorem dX12_begins_21 : decode cX12_begins 21 = .ok (.getfield 209, 3) := by decide +kernel
theorem dX12_begins_24 : decode cX12_begins 24 = .ok (.iconst 1, 1) := by decide +kernel
theorem dX12_begins_25 : decode cX12_begins 25 = .ok (.iadd, 1) := by decide +kernel
theorem dX12_begins_26 : decode cX12_begins 26 = .ok (.putfield 209, 3) := by decide +kernel
theorem dX12_begins_29 : decode cX12_begins 29 = .ok (.return_, 1) := by decide +kernel
theorem dX12_lentSize_0 : decode cX12_lentSize 0 = .ok (.aload_n 0, 1) := by decide +kernel
theorem dX12_lentSize_1 : decode cX12_lentSize 1 = .ok (.bipush 10, 2) := by decide +kernel
theorem dX12_lentSize_3 : decode cX12_lentSize 3 = .ok (.invokevirtual 212, 3) := by decide +kernel
theorem dX12_lentSize_6 : decode cX12_lentSize 6 = .ok (.aload_n 0, 1) := by decide +kernel
theorem dX12_lentSize_7 : decode cX12_lentSize 7 = .ok (.getfield 7, 3) := by decide +kernel
theorem dX12_lentSize_10 : decode cX12_lentSize 10 = .ok (.bipush 10, 2) := by decide +kernel
theorem dX12_lentSize_12 : decode cX12_lentSize 12 = .ok (.iload_n 1, 1) := by decide +kernel
theorem dX12_lentSize_13 : decode cX12_lentSize 13 = .ok (.iadd, 1) := by decide +kernel
theorem dX12_lentSize_14 : decode cX12_lentSize 14 = .ok (.iaload, 1) := by decide +kernel
theorem dX12_lentSize_15 : decode cX12_lentSize 15 = .ok (.ireturn, 1) := by decide +kernel
theorem dX12_lentMark_0 : decode cX12_lentMark 0 = .ok (.aload_n 0, 1) := by decide +kernel
theorem dX12_lentMark_1 : decode cX12_lentMark 1 = .ok (.bipush 20, 2) := by decide +kernel
theorem dX12_lentMark_3 : decode cX12_lentMark 3 = .ok (.invokevirtual 212, 3) := by decide +kernel
theorem dX12_lentMark_6 : decode cX12_lentMark 6 = .ok (.iload_n 1, 1) := by decide +kernel
theorem dX12_lentMark_7 : decode cX12_lentMark 7 = .ok (.ireturn, 1) := by decide +kernel
theorem dX12_openMark_0 : decode cX12_openMark 0 = .ok (.aload_n 0, 1) := by decide +kernel
theorem dX12_openMark_1 : decode cX12_openMark 1 = .ok (.bipush 21, 2) := by decide +kernel
theorem dX12_openMark_3 : decode cX12_openMark 3 = .ok (.invokevirtual 212, 3) := by decide +kernel
theorem dX12_openMark_6 : decode cX12_openMark 6 = .ok (.aload_n 0, 1) := by decide +kernel
theorem dX12_openMark_7 : decode cX12_openMark 7 = .ok (.iload_n 1, 1) := by decide +kernel
theorem dX12_openMark_8 : decode cX12_openMark 8 = .ok (.invokevirtual 216, 3) := by decide +kernel
theorem dX12_openMark_11 : decode cX12_openMark 11 = .ok (.aload_n 0, 1) := by decide +kernel
theorem dX12_openMark_12 : decode cX12_openMark 12 = .ok (.getfield 7, 3) := by decide +kernel
theorem dX12_openMark_15 : decode cX12_openMark 15 = .ok (.bipush 26, 2) := by decide +kernel
theorem dX12_openMark_17 : decode cX12_openMark 17 = .ok (.iload_n 1, 1) := by decide +kernel
theorem dX12_openMark_18 : decode cX12_openMark 18 = .ok (.iadd, 1) := by decide +kernel
theorem dX12_openMark_19 : decode cX12_openMark 19 = .ok (.iaload, 1) := by decide +kernel
theorem dX12_openMark_20 : decode cX12_openMark 20 = .ok (.iadd, 1) := by decide +kernel
theorem dX12_openMark_21 : decode cX12_openMark 21 = .ok (.ireturn, 1) := by decide +kernel
theorem dX12_markOfOpen_0 : decode cX12_markOfOpen 0 = .ok (.aload_n 0, 1) := by decide +kernel
theorem dX12_markOfOpen_1 : decode cX12_markOfOpen 1 = .ok (.getfield 7, 3) := by decide +kernel
theorem dX12_markOfOpen_4 : decode cX12_markOfOpen 4 = .ok (.iconst 3, 1) := by decide +kernel
theorem dX12_markOfOpen_5 : decode cX12_markOfOpen 5 = .ok (.iload_n 1, 1) := by decide +kernel
theorem dX12_markOfOpen_6 : decode cX12_markOfOpen 6 = .ok (.iadd, 1) := by decide +kernel
theorem dX12_markOfOpen_7 : decode cX12_markOfOpen 7 = .ok (.iaload, 1) := by decide +kernel
theorem dX12_markOfOpen_8 : decode cX12_markOfOpen 8 = .ok (.istore_n 2, 1) := by decide +kernel
theorem dX12_markOfOpen_9 : decode cX12_markOfOpen 9 = .ok (.iload_n 2, 1) := by decide +kernel
theorem dX12_markOfOpen_10 : decode cX12_markOfOpen 10 = .ok (.iconst 2, 1) := by decide +kernel
theorem dX12_markOfOpen_11 : decode cX12_markOfOpen 11 = .ok (.if_icmp .ne 17, 3) := by decide +kernel
theorem dX12_markOfOpen_14 : decode cX12_markOfOpen 14 = .ok (.aload_n 0, 1) := by decide +kernel
theorem dX12_markOfOpen_15 : decode cX12_markOfOpen 15 = .ok (.bipush 24, 2) := by decide +kernel
theorem dX12_markOfOpen_17 : decode cX12_markOfOpen 17 = .ok (.invokevirtual 212, 3) := by decide +kernel
theorem dX12_markOfOpen_20 : decode cX12_markOfOpen 20 = .ok (.iconst 2, 1) := by decide +kernel
theorem dX12_markOfOpen_21 : decode cX12_markOfOpen 21 = .ok (.aload_n 0, 1) := by decide +kernel
theorem dX12_markOfOpen_22 : decode cX12_markOfOpen 22 = .ok (.iload_n 1, 1) := by decide +kernel
theorem dX12_markOfOpen_23 : decode cX12_markOfOpen 23 = .ok (.invokevirtual 219, 3) := by decide +kernel
theorem dX12_markOfOpen_26 : decode cX12_markOfOpen 26 = .ok (.imul, 1) := by decide +kernel
theorem dX12_markOfOpen_27 : decode cX12_markOfOpen 27 = .ok (.ireturn, 1) := by decide +kernel
theorem dX12_markOfOpen_28 : decode cX12_markOfOpen 28 = .ok (.iload_n 2, 1) := by decide +kernel
theorem dX12_markOfOpen_29 : decode cX12_markOfOpen 29 = .ok (.iconst 3, 1) := by decide +kernel
theorem dX12_markOfOpen_30 : decode cX12_markOfOpen 30 = .ok (.if_icmp .ne 19, 3) := by decide +kernel
theorem dX12_markOfOpen_33 : decode cX12_markOfOpen 33 = .ok (.aload_n 0, 1) := by decide +kernel
theorem dX12_markOfOpen_34 : decode cX12_markOfOpen 34 = .ok (.bipush 22, 2) := by decide +kernel
theorem dX12_markOfOpen_36 : decode cX12_markOfOpen 36 = .ok (.invokevirtual 212, 3) := by decide +kernel
theorem dX12_markOfOpen_39 : decode cX12_markOfOpen 39 = .ok (.aload_n 0, 1) := by decide +kernel
theorem dX12_markOfOpen_40 : decode cX12_markOfOpen 40 = .ok (.iload_n 1, 1) := by decide +kernel
theorem dX12_markOfOpen_41 : decode cX12_markOfOpen 41 = .ok (.invokevirtual 219, 3) := by decide +kernel
theorem dX12_markOfOpen_44 : decode cX12_markOfOpen 44 = .ok (.sipush 1000, 3) := by decide +kernel
theorem dX12_markOfOpen_47 : decode cX12_markOfOpen 47 = .ok (.isub, 1) := by decide +kernel
theorem dX12_markOfOpen_48 : decode cX12_markOfOpen 48 = .ok (.ireturn, 1) := by decide +kernel
theorem dX12_markOfOpen_49 : decode cX12_markOfOpen 49 = .ok (.aload_n 0, 1) := by decide +kernel
theorem dX12_markOfOpen_50 : decode cX12_markOfOpen 50 = .ok (.iload_n 1, 1) := by decide +kernel
theorem dX12_markOfOpen_51 : decode cX12_markOfOpen 51 = .ok (.invokevirtual 219, 3) := by decide +kernel
theorem dX12_markOfOpen_54 : decode cX12_markOfOpen 54 = .ok (.ireturn, 1) := by decide +kernel
theorem dX12_openSize_0 : decode cX12_openSize 0 = .ok (.aload_n 0, 1) := by decide +kernel
theorem dX12_openSize_1 : decode cX12_openSize 1 = .ok (.bipush 11, 2) := by decide +kernel
theorem dX12_openSize_3 : decode cX12_openSize 3 = .ok (.invokevirtual 212, 3) := by decide +kernel
theorem dX12_openSize_6 : decode cX12_openSize 6 = .ok (.aload_n 0, 1) := by decide +kernel
theorem dX12_openSize_7 : decode cX12_openSize 7 = .ok (.iload_n 1, 1) := by decide +kernel
theorem dX12_openSize_8 : decode cX12_openSize 8 = .ok (.invokevirtual 222, 3) := by decide +kernel
theorem dX12_openSize_11 : decode cX12_openSize 11 = .ok (.istore_n 2, 1) := by decide +kernel
theorem dX12_openSize_12 : decode cX12_openSize 12 = .ok (.iload_n 2, 1) := by decide +kernel
theorem dX12_openSize_13 : decode cX12_openSize 13 = .ok (.aload_n 0, 1) := by decide +kernel
theorem dX12_openSize_14 : decode cX12_openSize 14 = .ok (.iload_n 1, 1) := by decide +kernel
theorem dX12_openSize_15 : decode cX12_openSize 15 = .ok (.invokevirtual 225, 3) := by decide +kernel
theorem dX12_openSize_18 : decode cX12_openSize 18 = .ok (.iadd, 1) := by decide +kernel
theorem dX12_openSize_19 : decode cX12_openSize 19 = .ok (.ireturn, 1) := by decide +kernel
theorem dX12_cornerSize_0 : decode cX12_cornerSize 0 = .ok (.aload_n 0, 1) := by decide +kernel
theorem dX12_cornerSize_1 : decode cX12_cornerSize 1 = .ok (.bipush 13, 2) := by decide +kernel
theorem dX12_cornerSize_3 : decode cX12_cornerSize 3 = .ok (.invokevirtual 212, 3) := by decide +kernel
theorem dX12_cornerSize_6 : decode cX12_cornerSize 6 = .ok (.aload_n 0, 1) := by decide +kernel
theorem dX12_cornerSize_7 : decode cX12_cornerSize 7 = .ok (.iload_n 1, 1) := by decide +kernel
theorem dX12_cornerSize_8 : decode cX12_cornerSize 8 = .ok (.invokevirtual 222, 3) := by decide +kernel
theorem dX12_cornerSize_11 : decode cX12_cornerSize 11 = .ok (.bipush 100, 2) := by decide +kernel
theorem dX12_cornerSize_13 : decode cX12_cornerSize 13 = .ok (.isub, 1) := by decide +kernel
theorem dX12_cornerSize_14 : decode cX12_cornerSize 14 = .ok (.ireturn, 1) := by decide +kernel
theorem dX12_sizeOfCorners_0 : decode cX12_sizeOfCorners 0 = .ok (.aload_n 0, 1) := by decide +kernel
theorem dX12_sizeOfCorners_1 : decode cX12_sizeOfCorners 1 = .ok (.getfield 7, 3) := by decide +kernel
theorem dX12_sizeOfCorners_4 : decode cX12_sizeOfCorners 4 = .ok (.iconst 3, 1) := by decide +kernel
theorem dX12_sizeOfCorners_5 : decode cX12_sizeOfCorners 5 = .ok (.iload_n 1, 1) := by decide +kernel
theorem dX12_sizeOfCorners_6 : decode cX12_sizeOfCorners 6 = .ok (.iadd, 1) := by decide +kernel
theorem dX12_sizeOfCorners_7 : decode cX12_sizeOfCorners 7 = .ok (.iaload, 1) := by decide +kernel
theorem dX12_sizeOfCorners_8 : decode cX12_sizeOfCorners 8 = .ok (.iconst 5, 1) := by decide +kernel
theorem dX12_sizeOfCorners_9 : decode cX12_sizeOfCorners 9 = .ok (.if_icmp .ne 17, 3) := by decide +kernel
theorem dX12_sizeOfCorners_12 : decode cX12_sizeOfCorners 12 = .ok (.aload_n 0, 1) := by decide +kernel
theorem dX12_sizeOfCorners_13 : decode cX12_sizeOfCorners 13 = .ok (.bipush 14, 2) := by decide +kernel
theorem dX12_sizeOfCorners_15 : decode cX12_sizeOfCorners 15 = .ok (.invokevirtual 212, 3) := by decide +kernel
theorem dX12_sizeOfCorners_18 : decode cX12_sizeOfCorners 18 = .ok (.iconst 2, 1) := by decide +kernel
theorem dX12_sizeOfCorners_19 : decode cX12_sizeOfCorners 19 = .ok (.aload_n 0, 1) := by decide +kernel
theorem dX12_sizeOfCorners_20 : decode cX12_sizeOfCorners 20 = .ok (.iload_n 1, 1) := by decide +kernel
theorem dX12_sizeOfCorners_21 : decode cX12_sizeOfCorners 21 = .ok (.invokevirtual 228, 3) := by decide +kernel
theorem dX12_sizeOfCorners_24 : decode cX12_sizeOfCorners 24 = .ok (.imul, 1) := by decide +kernel
theorem dX12_sizeOfCorners_25 : decode cX12_sizeOfCorners 25 = .ok (.ireturn, 1) := by decide +kernel
theorem dX12_sizeOfCorners_26 : decode cX12_sizeOfCorners 26 = .ok (.aload_n 0, 1) := by decide +kernel
theorem dX12_sizeOfCorners_27 : decode cX12_sizeOfCorners 27 = .ok (.iload_n 1, 1) := by decide +kernel
theorem dX12_sizeOfCorners_28 : decode cX12_sizeOfCorners 28 = .ok (.invokevirtual 228, 3) := by decide +kernel
theorem dX12_sizeOfCorners_31 : decode cX12_sizeOfCorners 31 = .ok (.ireturn, 1) := by decide +kernel
theorem dX12_sizeOf_0 : decode cX12_sizeOf 0 = .ok (.aload_n 0, 1) := by decide +kernel
theorem dX12_sizeOf_1 : decode cX12_sizeOf 1 = .ok (.getfield 7, 3) := by decide +kernel
theorem dX12_sizeOf_4 : decode cX12_sizeOf 4 = .ok (.iconst 3, 1) := by decide +kernel
theorem dX12_sizeOf_5 : decode cX12_sizeOf 5 = .ok (.iload_n 1, 1) := by decide +kernel
theorem dX12_sizeOf_6 : decode cX12_sizeOf 6 = .ok (.iadd, 1) := by decide +kernel
theorem dX12_sizeOf_7 : decode cX12_sizeOf 7 = .ok (.iaload, 1) := by decide +kernel
theorem dX12_sizeOf_8 : decode cX12_sizeOf 8 = .ok (.iconst 4, 1) := by decide +kernel
theorem dX12_sizeOf_9 : decode cX12_sizeOf 9 = .ok (.iconst 5, 1) := by decide +kernel
theorem dX12_sizeOf_10 : decode cX12_sizeOf 10 = .ok (.invokestatic 47, 3) := by decide +kernel
theorem dX12_sizeOf_13 : decode cX12_sizeOf 13 = .ok (.ifCond .eq 9, 3) := by decide +kernel
theorem dX12_sizeOf_16 : decode cX12_sizeOf 16 = .ok (.aload_n 0, 1) := by decide +kernel
theorem dX12_sizeOf_17 : decode cX12_sizeOf 17 = .ok (.iload_n 1, 1) := by decide +kernel
theorem dX12_sizeOf_18 : decode cX12_sizeOf 18 = .ok (.invokevirtual 231, 3) := by decide +kernel
theorem dX12_sizeOf_21 : decode cX12_sizeOf 21 = .ok (.ireturn, 1) := by decide +kernel
theorem dX12_sizeOf_22 : decode cX12_sizeOf 22 = .ok (.aload_n 0, 1) := by decide +kernel
theorem dX12_sizeOf_23 : decode cX12_sizeOf 23 = .ok (.getfield 7, 3) := by decide +kernel
theorem dX12_sizeOf_26 : decode cX12_sizeOf 26 = .ok (.iconst 3, 1) := by decide +kernel
theorem dX12_sizeOf_27 : decode cX12_sizeOf 27 = .ok (.iload_n 1, 1) := by decide +kernel
theorem dX12_sizeOf_28 : decode cX12_sizeOf 28 = .ok (.iadd, 1) := by decide +kernel
theorem dX12_sizeOf_29 : decode cX12_sizeOf 29 = .ok (.iaload, 1) := by decide +kernel
theorem dX12_sizeOf_30 : decode cX12_sizeOf 30 = .ok (.iconst 2, 1) := by decide +kernel
theorem dX12_sizeOf_31 : decode cX12_sizeOf 31 = .ok (.if_icmp .ne 16, 3) := by decide +kernel
theorem dX12_sizeOf_34 : decode cX12_sizeOf 34 = .ok (.aload_n 0, 1) := by decide +kernel
theorem dX12_sizeOf_35 : decode cX12_sizeOf 35 = .ok (.bipush 12, 2) := by decide +kernel
theorem dX12_sizeOf_37 : decode cX12_sizeOf 37 = .ok (.invokevirtual 212, 3) := by decide +kernel
theorem dX12_sizeOf_40 : decode cX12_sizeOf 40 = .ok (.aload_n 0, 1) := by decide +kernel
theorem dX12_sizeOf_41 : decode cX12_sizeOf 41 = .ok (.iload_n 1, 1) := by decide +kernel
theorem dX12_sizeOf_42 : decode cX12_sizeOf 42 = .ok (.invokevirtual 234, 3) := by decide +kernel
theorem dX12_sizeOf_45 : decode cX12_sizeOf 45 = .ok (.ineg, 1) := by decide +kernel
theorem dX12_sizeOf_46 : decode cX12_sizeOf 46 = .ok (.ireturn, 1) := by decide +kernel
theorem dX12_sizeOf_47 : decode cX12_sizeOf 47 = .ok (.aload_n 0, 1) := by decide +kernel
theorem dX12_sizeOf_48 : decode cX12_sizeOf 48 = .ok (.iload_n 1, 1) := by decide +kernel
theorem dX12_sizeOf_49 : decode cX12_sizeOf 49 = .ok (.invokevirtual 234, 3) := by decide +kernel
theorem dX12_sizeOf_52 : decode cX12_sizeOf 52 = .ok (.ireturn, 1) := by decide +kernel
theorem dX12_markOf_0 : decode cX12_markOf 0 = .ok (.aload_n 0, 1) := by decide +kernel
theorem dX12_markOf_1 : decode cX12_markOf 1 = .ok (.getfield 7, 3) := by decide +kernel
theorem dX12_markOf_4 : decode cX12_markOf 4 = .ok (.iconst 3, 1) := by decide +kernel
theorem dX12_markOf_5 : decode cX12_markOf 5 = .ok (.iload_n 1, 1) := by decide +kernel
theorem dX12_markOf_6 : decode cX12_markOf 6 = .ok (.iadd, 1) := by decide +kernel
theorem dX12_markOf_7 : decode cX12_markOf 7 = .ok (.iaload, 1) := by decide +kernel
theorem dX12_markOf_8 : decode cX12_markOf 8 = .ok (.iconst 4, 1) := by decide +kernel
theorem dX12_markOf_9 : decode cX12_markOf 9 = .ok (.iconst 5, 1) := by decide +kernel
theorem dX12_markOf_10 : decode cX12_markOf 10 = .ok (.invokestatic 47, 3) := by decide +kernel
theorem dX12_markOf_13 : decode cX12_markOf 13 = .ok (.ifCond .ne 9, 3) := by decide +kernel
theorem dX12_markOf_16 : decode cX12_markOf 16 = .ok (.aload_n 0, 1) := by decide +kernel
theorem dX12_markOf_17 : decode cX12_markOf 17 = .ok (.iload_n 1, 1) := by decide +kernel
theorem dX12_markOf_18 : decode cX12_markOf 18 = .ok (.invokevirtual 225, 3) := by decide +kernel
theorem dX12_markOf_21 : decode cX12_markOf 21 = .ok (.ireturn, 1) := by decide +kernel
theorem dX12_markOf_22 : decode cX12_markOf 22 = .ok (.aload_n 0, 1) := by decide +kernel
theorem dX12_markOf_23 : decode cX12_markOf 23 = .ok (.bipush 23, 2) := by decide +kernel
theorem dX12_markOf_25 : decode cX12_markOf 25 = .ok (.invokevirtual 212, 3) := by decide +kernel
theorem dX12_markOf_28 : decode cX12_markOf 28 = .ok (.aload_n 0, 1) := by decide +kernel
theorem dX12_markOf_29 : decode cX12_markOf 29 = .ok (.iload_n 1, 1) := by decide +kernel
theorem dX12_markOf_30 : decode cX12_markOf 30 = .ok (.invokevirtual 216, 3) := by decide +kernel
theorem dX12_markOf_33 : decode cX12_markOf 33 = .ok (.istore_n 2, 1) := by decide +kernel
theorem dX12_markOf_34 : decode cX12_markOf 34 = .ok (.iload_n 2, 1) := by decide +kernel
theorem dX12_markOf_35 : decode cX12_markOf 35 = .ok (.aload_n 0, 1) := by decide +kernel
theorem dX12_markOf_36 : decode cX12_markOf 36 = .ok (.iload_n 1, 1) := by decide +kernel
theorem dX12_markOf_37 : decode cX12_markOf 37 = .ok (.invokevirtual 231, 3) := by decide +kernel
theorem dX12_markOf_40 : decode cX12_markOf 40 = .ok (.isub, 1) := by decide +kernel
theorem dX12_markOf_41 : decode cX12_markOf 41 = .ok (.ireturn, 1) := by decide +kernel
theorem dX12_ask_0 : decode cX12_ask 0 = .ok (.aload_n 0, 1) := by decide +kernel
theorem dX12_ask_1 : decode cX12_ask 1 = .ok (.iload_n 1, 1) := by decide +kernel
theorem dX12_ask_2 : decode cX12_ask 2 = .ok (.invokevirtual 167, 3) := by decide +kernel
theorem dX12_ask_5 : decode cX12_ask 5 = .ok (.ifCond .eq 12, 3) := by decide +kernel
theorem dX12_ask_8 : decode cX12_ask 8 = .ok (.iload_n 2, 1) := by decide +kernel
theorem dX12_ask_9 : decode cX12_ask 9 = .ok (.iconst 0, 1) := by decide +kernel
theorem dX12_ask_10 : decode cX12_ask 10 = .ok (.iconst 1, 1) := by decide +kernel
theorem dX12_ask_11 : decode cX12_ask 11 = .ok (.invokestatic 47, 3) := by decide +kernel
theorem dX12_ask_14 : decode cX12_ask 14 = .ok (.ifCond .ne 6, 3) := by decide +kernel
theorem dX12_ask_17 : decode cX12_ask 17 = .ok (.ldc 55, 2) := by decide +kernel
theorem dX12_ask_19 : decode cX12_ask 19 = .ok (.ireturn, 1) := by decide +kernel
theorem dX12_ask_20 : decode cX12_ask 20 = .ok (.aload_n 0, 1) := by decide +kernel
theorem dX12_ask_21 : decode cX12_ask 21 = .ok (.iconst 0, 1) := by decide +kernel
theorem dX12_ask_22 : decode cX12_ask 22 = .ok (.putfield 209, 3) := by decide +kernel
theorem dX12_ask_25 : decode cX12_ask 25 = .ok (.iload_n 2, 1) := by decide +kernel
theorem dX12_ask_26 : decode cX12_ask 26 = .ok (.ifCond .ne 11, 3) := by decide +kernel
theorem dX12_ask_29 : decode cX12_ask 29 = .ok (.aload_n 0, 1) := by decide +kernel
theorem dX12_ask_30 : decode cX12_ask 30 = .ok (.iload_n 1, 1) := by decide +kernel
theorem dX12_ask_31 : decode cX12_ask 31 = .ok (.invokevirtual 237, 3) := by decide +kernel
theorem dX12_ask_34 : decode cX12_ask 34 = .ok (.goto 8, 3) := by decide +kernel
theorem dX12_ask_37 : decode cX12_ask 37 = .ok (.aload_n 0, 1) := by decide +kernel
theorem dX12_ask_38 : decode cX12_ask 38 = .ok (.iload_n 1, 1) := by decide +kernel
theorem dX12_ask_39 : decode cX12_ask 39 = .ok (.invokevirtual 240, 3) := by decide +kernel
theorem dX12_ask_42 : decode cX12_ask 42 = .ok (.ireturn, 1) := by decide +kernel
theorem dX12_trace_0 : decode cX12_trace 0 = .ok (.iload_n 1, 1) := by decide +kernel
theorem dX12_trace_1 : decode cX12_trace 1 = .ok (.iconst 0, 1) := by decide +kernel
theorem dX12_trace_2 : decode cX12_trace 2 = .ok (.aload_n 0, 1) := by decide +kernel
theorem dX12_trace_3 : decode cX12_trace 3 = .ok (.getfield 209, 3) := by decide +kernel
theorem dX12_trace_6 : decode cX12_trace 6 = .ok (.iconst 1, 1) := by decide +kernel
theorem dX12_trace_7 : decode cX12_trace 7 = .ok (.isub, 1) := by decide +kernel
theorem dX12_trace_8 : decode cX12_trace 8 = .ok (.invokestatic 47, 3) := by decide +kernel
theorem dX12_trace_11 : decode cX12_trace 11 = .ok (.ifCond .eq 12, 3) := by decide +kernel
theorem dX12_trace_14 : decode cX12_trace 14 = .ok (.aload_n 0, 1) := by decide +kernel
theorem dX12_trace_15 : decode cX12_trace 15 = .ok (.getfield 38, 3) := by decide +kernel
theorem dX12_trace_18 : decode cX12_trace 18 = .ok (.iload_n 1, 1) := by decide +kernel
theorem dX12_trace_19 : decode cX12_trace 19 = .ok (.iaload, 1) := by decide +kernel
theorem dX12_trace_20 : decode cX12_trace 20 = .ok (.goto 5, 3) := by decide +kernel
theorem dX12_trace_23 : decode cX12_trace 23 = .ok (.ldc 41, 2) := by decide +kernel
theorem dX12_trace_25 : decode cX12_trace 25 = .ok (.ireturn, 1) := by decide +kernel
theorem dX12_outNow_0 : decode cX12_outNow 0 = .ok (.iconst 0, 1) := by decide +kernel
theorem dX12_outNow_1 : decode cX12_outNow 1 = .ok (.istore_n 1, 1) := by decide +kernel
theorem dX12_outNow_2 : decode cX12_outNow 2 = .ok (.iconst 0, 1) := by decide +kernel
theorem dX12_outNow_3 : decode cX12_outNow 3 = .ok (.istore_n 2, 1) := by decide +kernel
theorem dX12_outNow_4 : decode cX12_outNow 4 = .ok (.iload_n 2, 1) := by decide +kernel
theorem dX12_outNow_5 : decode cX12_outNow 5 = .ok (.aload_n 0, 1) := by decide +kernel
theorem dX12_outNow_6 : decode cX12_outNow 6 = .ok (.getfield 7, 3) := by decide +kernel
theorem dX12_outNow_9 : decode cX12_outNow 9 = .ok (.iconst 1, 1) := by decide +kernel
theorem dX12_outNow_10 : decode cX12_outNow 10 = .ok (.iaload, 1) := by decide +kernel
theorem dX12_outNow_11 : decode cX12_outNow 11 = .ok (.if_icmp .ge 29, 3) := by decide +kernel
theorem dX12_outNow_14 : decode cX12_outNow 14 = .ok (.iload_n 1, 1) := by decide +kernel
theorem dX12_outNow_15 : decode cX12_outNow 15 = .ok (.aload_n 0, 1) := by decide +kernel
theorem dX12_outNow_16 : decode cX12_outNow 16 = .ok (.getfield 7, 3) := by decide +kernel
theorem dX12_outNow_19 : decode cX12_outNow 19 = .ok (.bipush 47, 2) := by decide +kernel
theorem dX12_outNow_21 : decode cX12_outNow 21 = .ok (.iload_n 2, 1) := by decide +kernel
theorem dX12_outNow_22 : decode cX12_outNow 22 = .ok (.iadd, 1) := by decide +kernel
theorem dX12_outNow_23 : decode cX12_outNow 23 = .ok (.iaload, 1) := by decide +kernel
theorem dX12_outNow_24 : decode cX12_outNow 24 = .ok (.ifCond .le 7, 3) := by decide +kernel
theorem dX12_outNow_27 : decode cX12_outNow 27 = .ok (.iconst 1, 1) := by decide +kernel
theorem dX12_outNow_28 : decode cX12_outNow 28 = .ok (.goto 4, 3) := by decide +kernel
theorem dX12_outNow_31 : decode cX12_outNow 31 = .ok (.iconst 0, 1) := by decide +kernel
theorem dX12_outNow_32 : decode cX12_outNow 32 = .ok (.iadd, 1) := by decide +kernel
theorem dX12_outNow_33 : decode cX12_outNow 33 = .ok (.istore_n 1, 1) := by decide +kernel
theorem dX12_outNow_34 : decode cX12_outNow 34 = .ok (.iinc 2 1, 3) := by decide +kernel
theorem dX12_outNow_37 : decode cX12_outNow 37 = .ok (.goto (-33), 3) := by decide +kernel
theorem dX12_outNow_40 : decode cX12_outNow 40 = .ok (.iload_n 1, 1) := by decide +kernel
theorem dX12_outNow_41 : decode cX12_outNow 41 = .ok (.ireturn, 1) := by decide +kernel
theorem dX12_count_0 : decode cX12_count 0 = .ok (.iconst 0, 1) := by decide +kernel
theorem dX12_count_1 : decode cX12_count 1 = .ok (.istore_n 2, 1) := by decide +kernel
theorem dX12_count_2 : decode cX12_count 2 = .ok (.iconst 0, 1) := by decide +kernel
theorem dX12_count_3 : decode cX12_count 3 = .ok (.istore_n 3, 1) := by decide +kernel
theorem dX12_count_4 : decode cX12_count 4 = .ok (.iload_n 3, 1) := by decide +kernel
theorem dX12_count_5 : decode cX12_count 5 = .ok (.bipush 8, 2) := by decide +kernel
theorem dX12_count_7 : decode cX12_count 7 = .ok (.if_icmp .ge 28, 3) := by decide +kernel
theorem dX12_count_10 : decode cX12_count 10 = .ok (.iload_n 2, 1) := by decide +kernel
theorem dX12_count_11 : decode cX12_count 11 = .ok (.aload_n 0, 1) := by decide +kernel
theorem dX12_count_12 : decode cX12_count 12 = .ok (.getfield 23, 3) := by decide +kernel
theorem dX12_count_15 : decode cX12_count 15 = .ok (.iload_n 3, 1) := by decide +kernel
theorem dX12_count_16 : decode cX12_count 16 = .ok (.iaload, 1) := by decide +kernel
theorem dX12_count_17 : decode cX12_count 17 = .ok (.ldc 41, 2) := by decide +kernel
theorem dX12_count_19 : decode cX12_count 19 = .ok (.if_icmp .ne 7, 3) := by decide +kernel
theorem dX12_count_22 : decode cX12_count 22 = .ok (.iconst 0, 1) := by decide +kernel
theorem dX12_count_23 : decode cX12_count 23 = .ok (.goto 4, 3) := by decide +kernel
theorem dX12_count_26 : decode cX12_count 26 = .ok (.iconst 1, 1) := by decide +kernel
theorem dX12_count_27 : decode cX12_count 27 = .ok (.iadd, 1) := by decide +kernel
theorem dX12_count_28 : decode cX12_count 28 = .ok (.istore_n 2, 1) := by decide +kernel
theorem dX12_count_29 : decode cX12_count 29 = .ok (.iinc 3 1, 3) := by decide +kernel
theorem dX12_count_32 : decode cX12_count 32 = .ok (.goto (-28), 3) := by decide +kernel
theorem dX12_count_35 : decode cX12_count 35 = .ok (.iload_n 1, 1) := by decide +kernel
theorem dX12_count_36 : decode cX12_count 36 = .ok (.tableswitch 83 0 6 #[44, 46, 53, 60, 68, 73, 78], 44) := by decide +kernel
theorem dX12_count_80 : decode cX12_count 80 = .ok (.iload_n 2, 1) := by decide +kernel
theorem dX12_count_81 : decode cX12_count 81 = .ok (.ireturn, 1) := by decide +kernel
theorem dX12_count_82 : decode cX12_count 82 = .ok (.aload_n 0, 1) := by decide +kernel
theorem dX12_count_83 : decode cX12_count 83 = .ok (.getfield 7, 3) := by decide +kernel
theorem dX12_count_86 : decode cX12_count 86 = .ok (.iconst 1, 1) := by decide +kernel
theorem dX12_count_87 : decode cX12_count 87 = .ok (.iaload, 1) := by decide +kernel
theorem dX12_count_88 : decode cX12_count 88 = .ok (.ireturn, 1) := by decide +kernel
theorem dX12_count_89 : decode cX12_count 89 = .ok (.aload_n 0, 1) := by decide +kernel
theorem dX12_count_90 : decode cX12_count 90 = .ok (.getfield 7, 3) := by decide +kernel
theorem dX12_count_93 : decode cX12_count 93 = .ok (.iconst 2, 1) := by decide +kernel
theorem dX12_count_94 : decode cX12_count 94 = .ok (.iaload, 1) := by decide +kernel
theorem dX12_count_95 : decode cX12_count 95 = .ok (.ireturn, 1) := by decide +kernel
theorem dX12_count_96 : decode cX12_count 96 = .ok (.aload_n 0, 1) := by decide +kernel
theorem dX12_count_97 : decode cX12_count 97 = .ok (.getfield 7, 3) := by decide +kernel
theorem dX12_count_100 : decode cX12_count 100 = .ok (.bipush 25, 2) := by decide +kernel
theorem dX12_count_102 : decode cX12_count 102 = .ok (.iaload, 1) := by decide +kernel
theorem dX12_count_103 : decode cX12_count 103 = .ok (.ireturn, 1) := by decide +kernel
theorem dX12_count_104 : decode cX12_count 104 = .ok (.aload_n 0, 1) := by decide +kernel
theorem dX12_count_105 : decode cX12_count 105 = .ok (.getfield 143, 3) := by decide +kernel
theorem dX12_count_108 : decode cX12_count 108 = .ok (.ireturn, 1) := by decide +kernel
theorem dX12_count_109 : decode cX12_count 109 = .ok (.aload_n 0, 1) := by decide +kernel
theorem dX12_count_110 : decode cX12_count 110 = .ok (.invokevirtual 243, 3) := by decide +kernel
theorem dX12_count_113 : decode cX12_count 113 = .ok (.ireturn, 1) := by decide +kernel
theorem dX12_count_114 : decode cX12_count 114 = .ok (.aload_n 0, 1) := by decide +kernel
theorem dX12_count_115 : decode cX12_count 115 = .ok (.getfield 66, 3) := by decide +kernel
theorem dX12_count_118 : decode cX12_count 118 = .ok (.ireturn, 1) := by decide +kernel
theorem dX12_count_119 : decode cX12_count 119 = .ok (.ldc 55, 2) := by decide +kernel
theorem dX12_count_121 : decode cX12_count 121 = .ok (.ireturn, 1) := by decide +kernel
theorem dX12_status_0 : decode cX12_status 0 = .ok (.aload_n 0, 1) := by decide +kernel
theorem dX12_status_1 : decode cX12_status 1 = .ok (.getfield 42, 3) := by decide +kernel
theorem dX12_status_4 : decode cX12_status 4 = .ok (.ireturn, 1) := by decide +kernel
