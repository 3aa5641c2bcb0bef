theorem dX11_init_0 : decode cX11_init 0 = .ok (.aload_n 0, 1) := by decide +kernel
theorem dX11_init_1 : decode cX11_init 1 = .ok (.invokespecial 1, 3) := by decide +kernel
theorem dX11_init_4 : decode cX11_init 4 = .ok (.aload_n 0, 1) := by decide +kernel
theorem dX11_init_5 : decode cX11_init 5 = .ok (.new 7, 3) := by decide +kernel
theorem dX11_init_8 : decode cX11_init 8 = .ok (.dup, 1) := by decide +kernel
theorem dX11_init_9 : decode cX11_init 9 = .ok (.invokespecial 9, 3) := by decide +kernel
theorem dX11_init_12 : decode cX11_init 12 = .ok (.putfield 10, 3) := by decide +kernel
theorem dX11_init_15 : decode cX11_init 15 = .ok (.aload_n 0, 1) := by decide +kernel
theorem dX11_init_16 : decode cX11_init 16 = .ok (.sipush 400, 3) := by decide +kernel
theorem dX11_init_19 : decode cX11_init 19 = .ok (.newarray .byte, 2) := by decide +kernel
theorem dX11_init_21 : decode cX11_init 21 = .ok (.putfield 16, 3) := by decide +kernel
theorem dX11_init_24 : decode cX11_init 24 = .ok (.aload_n 0, 1) := by decide +kernel
theorem dX11_init_25 : decode cX11_init 25 = .ok (.new 20, 3) := by decide +kernel
theorem dX11_init_28 : decode cX11_init 28 = .ok (.dup, 1) := by decide +kernel
theorem dX11_init_29 : decode cX11_init 29 = .ok (.aconst_null, 1) := by decide +kernel
theorem dX11_init_30 : decode cX11_init 30 = .ok (.invokespecial 22, 3) := by decide +kernel
theorem dX11_init_33 : decode cX11_init 33 = .ok (.putfield 25, 3) := by decide +kernel
theorem dX11_init_36 : decode cX11_init 36 = .ok (.aload_n 0, 1) := by decide +kernel
theorem dX11_init_37 : decode cX11_init 37 = .ok (.bipush 24, 2) := by decide +kernel
theorem dX11_init_39 : decode cX11_init 39 = .ok (.anewarray 20, 3) := by decide +kernel
theorem dX11_init_42 : decode cX11_init 42 = .ok (.putfield 29, 3) := by decide +kernel
theorem dX11_init_45 : decode cX11_init 45 = .ok (.iconst 0, 1) := by decide +kernel
theorem dX11_init_46 : decode cX11_init 46 = .ok (.istore_n 1, 1) := by decide +kernel
theorem dX11_init_47 : decode cX11_init 47 = .ok (.iload_n 1, 1) := by decide +kernel
theorem dX11_init_48 : decode cX11_init 48 = .ok (.aload_n 0, 1) := by decide +kernel
theorem dX11_init_49 : decode cX11_init 49 = .ok (.getfield 29, 3) := by decide +kernel
theorem dX11_init_52 : decode cX11_init 52 = .ok (.arraylength, 1) := by decide +kernel
theorem dX11_init_53 : decode cX11_init 53 = .ok (.if_icmp .ge 23, 3) := by decide +kernel
theorem dX11_init_56 : decode cX11_init 56 = .ok (.aload_n 0, 1) := by decide +kernel
theorem dX11_init_57 : decode cX11_init 57 = .ok (.getfield 29, 3) := by decide +kernel
theorem dX11_init_60 : decode cX11_init 60 = .ok (.iload_n 1, 1) := by decide +kernel
theorem dX11_init_61 : decode cX11_init 61 = .ok (.new 20, 3) := by decide +kernel
theorem dX11_init_64 : decode cX11_init 64 = .ok (.dup, 1) := by decide +kernel
theorem dX11_init_65 : decode cX11_init 65 = .ok (.aconst_null, 1) := by decide +kernel
theorem dX11_init_66 : decode cX11_init 66 = .ok (.invokespecial 22, 3) := by decide +kernel
theorem dX11_init_69 : decode cX11_init 69 = .ok (.aastore, 1) := by decide +kernel
theorem dX11_init_70 : decode cX11_init 70 = .ok (.iinc 1 1, 3) := by decide +kernel
theorem dX11_init_73 : decode cX11_init 73 = .ok (.goto (-26), 3) := by decide +kernel
theorem dX11_init_76 : decode cX11_init 76 = .ok (.aload_n 0, 1) := by decide +kernel
theorem dX11_init_77 : decode cX11_init 77 = .ok (.iconst 2, 1) := by decide +kernel
theorem dX11_init_78 : decode cX11_init 78 = .ok (.anewarray 20, 3) := by decide +kernel
theorem dX11_init_81 : decode cX11_init 81 = .ok (.putfield 33, 3) := by decide +kernel
theorem dX11_init_84 : decode cX11_init 84 = .ok (.iconst 0, 1) := by decide +kernel
theorem dX11_init_85 : decode cX11_init 85 = .ok (.istore_n 1, 1) := by decide +kernel
theorem dX11_init_86 : decode cX11_init 86 = .ok (.iload_n 1, 1) := by decide +kernel
theorem dX11_init_87 : decode cX11_init 87 = .ok (.aload_n 0, 1) := by decide +kernel
theorem dX11_init_88 : decode cX11_init 88 = .ok (.getfield 33, 3) := by decide +kernel
theorem dX11_init_91 : decode cX11_init 91 = .ok (.arraylength, 1) := by decide +kernel
theorem dX11_init_92 : decode cX11_init 92 = .ok (.if_icmp .ge 23, 3) := by decide +kernel
theorem dX11_init_95 : decode cX11_init 95 = .ok (.aload_n 0, 1) := by decide +kernel
theorem dX11_init_96 : decode cX11_init 96 = .ok (.getfield 33, 3) := by decide +kernel
theorem dX11_init_99 : decode cX11_init 99 = .ok (.iload_n 1, 1) := by decide +kernel
theorem dX11_init_100 : decode cX11_init 100 = .ok (.new 20, 3) := by decide +kernel
theorem dX11_init_103 : decode cX11_init 103 = .ok (.dup, 1) := by decide +kernel
theorem dX11_init_104 : decode cX11_init 104 = .ok (.aconst_null, 1) := by decide +kernel
theorem dX11_init_105 : decode cX11_init 105 = .ok (.invokespecial 22, 3) := by decide +kernel
theorem dX11_init_108 : decode cX11_init 108 = .ok (.aastore, 1) := by decide +kernel
theorem dX11_init_109 : decode cX11_init 109 = .ok (.iinc 1 1, 3) := by decide +kernel
theorem dX11_init_112 : decode cX11_init 112 = .ok (.goto (-26), 3) := by decide +kernel
theorem dX11_init_115 : decode cX11_init 115 = .ok (.aload_n 0, 1) := by decide +kernel
theorem dX11_init_116 : decode cX11_init 116 = .ok (.new 36, 3) := by decide +kernel
theorem dX11_init_119 : decode cX11_init 119 = .ok (.dup, 1) := by decide +kernel
theorem dX11_init_120 : decode cX11_init 120 = .ok (.invokespecial 38, 3) := by decide +kernel
theorem dX11_init_123 : decode cX11_init 123 = .ok (.putfield 39, 3) := by decide +kernel
theorem dX11_init_126 : decode cX11_init 126 = .ok (.return_, 1) := by decide +kernel
theorem dX11_row_0 : decode cX11_row 0 = .ok (.aload_n 0, 1) := by decide +kernel
theorem dX11_row_1 : decode cX11_row 1 = .ok (.getfield 10, 3) := by decide +kernel
theorem dX11_row_4 : decode cX11_row 4 = .ok (.iload_n 1, 1) := by decide +kernel
theorem dX11_row_5 : decode cX11_row 5 = .ok (.invokevirtual 43, 3) := by decide +kernel
theorem dX11_row_8 : decode cX11_row 8 = .ok (.ifCond .eq 18, 3) := by decide +kernel
theorem dX11_row_11 : decode cX11_row 11 = .ok (.iload_n 2, 1) := by decide +kernel
theorem dX11_row_12 : decode cX11_row 12 = .ok (.ifCond .lt 14, 3) := by decide +kernel
theorem dX11_row_15 : decode cX11_row 15 = .ok (.iload_n 2, 1) := by decide +kernel
theorem dX11_row_16 : decode cX11_row 16 = .ok (.iconst 3, 1) := by decide +kernel
theorem dX11_row_17 : decode cX11_row 17 = .ok (.if_icmp .ge 9, 3) := by decide +kernel
theorem dX11_row_20 : decode cX11_row 20 = .ok (.iload_n 3, 1) := by decide +kernel
theorem dX11_row_21 : decode cX11_row 21 = .ok (.bipush 40, 2) := by decide +kernel
theorem dX11_row_23 : decode cX11_row 23 = .ok (.if_icmp .le 6, 3) := by decide +kernel
theorem dX11_row_26 : decode cX11_row 26 = .ok (.ldc 47, 2) := by decide +kernel
theorem dX11_row_28 : decode cX11_row 28 = .ok (.ireturn, 1) := by decide +kernel
theorem dX11_row_29 : decode cX11_row 29 = .ok (.aload_n 0, 1) := by decide +kernel
theorem dX11_row_30 : decode cX11_row 30 = .ok (.iload_n 3, 1) := by decide +kernel
theorem dX11_row_31 : decode cX11_row 31 = .ok (.ifCond .ge 7, 3) := by decide +kernel
theorem dX11_row_34 : decode cX11_row 34 = .ok (.iconst 4, 1) := by decide +kernel
theorem dX11_row_35 : decode cX11_row 35 = .ok (.goto 4, 3) := by decide +kernel
theorem dX11_row_38 : decode cX11_row 38 = .ok (.iconst 0, 1) := by decide +kernel
theorem dX11_row_39 : decode cX11_row 39 = .ok (.putfield 48, 3) := by decide +kernel
theorem dX11_row_42 : decode cX11_row 42 = .ok (.aload_n 0, 1) := by decide +kernel
theorem dX11_row_43 : decode cX11_row 43 = .ok (.getfield 48, 3) := by decide +kernel
theorem dX11_row_46 : decode cX11_row 46 = .ok (.ifCond .eq 11, 3) := by decide +kernel
theorem dX11_row_49 : decode cX11_row 49 = .ok (.ldc 52, 2) := by decide +kernel
theorem dX11_row_51 : decode cX11_row 51 = .ok (.aload_n 0, 1) := by decide +kernel
theorem dX11_row_52 : decode cX11_row 52 = .ok (.getfield 48, 3) := by decide +kernel
theorem dX11_row_55 : decode cX11_row 55 = .ok (.isub, 1) := by decide +kernel
theorem dX11_row_56 : decode cX11_row 56 = .ok (.ireturn, 1) := by decide +kernel
theorem dX11_row_57 : decode cX11_row 57 = .ok (.aload_n 0, 1) := by decide +kernel
theorem dX11_row_58 : decode cX11_row 58 = .ok (.getfield 10, 3) := by decide +kernel
theorem dX11_row_61 : decode cX11_row 61 = .ok (.iload_n 1, 1) := by decide +kernel
theorem dX11_row_62 : decode cX11_row 62 = .ok (.iload_n 2, 1) := by decide +kernel
theorem dX11_row_63 : decode cX11_row 63 = .ok (.iload_n 3, 1) := by decide +kernel
theorem dX11_row_64 : decode cX11_row 64 = .ok (.invokevirtual 53, 3) := by decide +kernel
theorem dX11_row_67 : decode cX11_row 67 = .ok (.iload_n 3, 1) := by decide +kernel
theorem dX11_row_68 : decode cX11_row 68 = .ok (.ireturn, 1) := by decide +kernel
theorem dX11_set_0 : decode cX11_set 0 = .ok (.aload_n 0, 1) := by decide +kernel
theorem dX11_set_1 : decode cX11_set 1 = .ok (.getfield 10, 3) := by decide +kernel
theorem dX11_set_4 : decode cX11_set 4 = .ok (.iload_n 1, 1) := by decide +kernel
theorem dX11_set_5 : decode cX11_set 5 = .ok (.invokevirtual 43, 3) := by decide +kernel
theorem dX11_set_8 : decode cX11_set 8 = .ok (.ifCond .ne 6, 3) := by decide +kernel
theorem dX11_set_11 : decode cX11_set 11 = .ok (.ldc 47, 2) := by decide +kernel
theorem dX11_set_13 : decode cX11_set 13 = .ok (.ireturn, 1) := by decide +kernel
theorem dX11_set_14 : decode cX11_set 14 = .ok (.aload_n 0, 1) := by decide +kernel
theorem dX11_set_15 : decode cX11_set 15 = .ok (.aload_n 0, 1) := by decide +kernel
theorem dX11_set_16 : decode cX11_set 16 = .ok (.getfield 10, 3) := by decide +kernel
theorem dX11_set_19 : decode cX11_set 19 = .ok (.iload_n 1, 1) := by decide +kernel
theorem dX11_set_20 : decode cX11_set 20 = .ok (.iload_n 2, 1) := by decide +kernel
theorem dX11_set_21 : decode cX11_set 21 = .ok (.iconst 1, 1) := by decide +kernel
theorem dX11_set_22 : decode cX11_set 22 = .ok (.invokevirtual 57, 3) := by decide +kernel
theorem dX11_set_25 : decode cX11_set 25 = .ok (.putfield 48, 3) := by decide +kernel
theorem dX11_set_28 : decode cX11_set 28 = .ok (.aload_n 0, 1) := by decide +kernel
theorem dX11_set_29 : decode cX11_set 29 = .ok (.getfield 48, 3) := by decide +kernel
theorem dX11_set_32 : decode cX11_set 32 = .ok (.ifCond .eq 13, 3) := by decide +kernel
theorem dX11_set_35 : decode cX11_set 35 = .ok (.ldc 52, 2) := by decide +kernel
theorem dX11_set_37 : decode cX11_set 37 = .ok (.aload_n 0, 1) := by decide +kernel
theorem dX11_set_38 : decode cX11_set 38 = .ok (.getfield 48, 3) := by decide +kernel
theorem dX11_set_41 : decode cX11_set 41 = .ok (.isub, 1) := by decide +kernel
theorem dX11_set_42 : decode cX11_set 42 = .ok (.goto 13, 3) := by decide +kernel
theorem dX11_set_45 : decode cX11_set 45 = .ok (.aload_n 0, 1) := by decide +kernel
theorem dX11_set_46 : decode cX11_set 46 = .ok (.getfield 10, 3) := by decide +kernel
theorem dX11_set_49 : decode cX11_set 49 = .ok (.iload_n 1, 1) := by decide +kernel
theorem dX11_set_50 : decode cX11_set 50 = .ok (.iload_n 2, 1) := by decide +kernel
theorem dX11_set_51 : decode cX11_set 51 = .ok (.iload_n 3, 1) := by decide +kernel
theorem dX11_set_52 : decode cX11_set 52 = .ok (.invokevirtual 61, 3) := by decide +kernel
theorem dX11_set_55 : decode cX11_set 55 = .ok (.ireturn, 1) := by decide +kernel
theorem dX11_copy_0 : decode cX11_copy 0 = .ok (.aload_n 0, 1) := by decide +kernel
theorem dX11_copy_1 : decode cX11_copy 1 = .ok (.getfield 10, 3) := by decide +kernel
theorem dX11_copy_4 : decode cX11_copy 4 = .ok (.iload_n 1, 1) := by decide +kernel
theorem dX11_copy_5 : decode cX11_copy 5 = .ok (.invokevirtual 43, 3) := by decide +kernel
theorem dX11_copy_8 : decode cX11_copy 8 = .ok (.ifCond .eq 14, 3) := by decide +kernel
theorem dX11_copy_11 : decode cX11_copy 11 = .ok (.aload_n 0, 1) := by decide +kernel
theorem dX11_copy_12 : decode cX11_copy 12 = .ok (.getfield 10, 3) := by decide +kernel
theorem dX11_copy_15 : decode cX11_copy 15 = .ok (.iload_n 3, 1) := by decide +kernel
theorem dX11_copy_16 : decode cX11_copy 16 = .ok (.invokevirtual 43, 3) := by decide +kernel
theorem dX11_copy_19 : decode cX11_copy 19 = .ok (.ifCond .ne 6, 3) := by decide +kernel
theorem dX11_copy_22 : decode cX11_copy 22 = .ok (.ldc 47, 2) := by decide +kernel
theorem dX11_copy_24 : decode cX11_copy 24 = .ok (.ireturn, 1) := by decide +kernel
theorem dX11_copy_25 : decode cX11_copy 25 = .ok (.aload_n 0, 1) := by decide +kernel
theorem dX11_copy_26 : decode cX11_copy 26 = .ok (.aload_n 0, 1) := by decide +kernel
theorem dX11_copy_27 : decode cX11_copy 27 = .ok (.getfield 10, 3) := by decide +kernel
theorem dX11_copy_30 : decode cX11_copy 30 = .ok (.iload_n 1, 1) := by decide +kernel
theorem dX11_copy_31 : decode cX11_copy 31 = .ok (.iload_n 2, 1) := by decide +kernel
theorem dX11_copy_32 : decode cX11_copy 32 = .ok (.iload_n 3, 1) := by decide +kernel
theorem dX11_copy_33 : decode cX11_copy 33 = .ok (.iload 4, 2) := by decide +kernel
theorem dX11_copy_35 : decode cX11_copy 35 = .ok (.iload 5, 2) := by decide +kernel
theorem dX11_copy_37 : decode cX11_copy 37 = .ok (.invokevirtual 64, 3) := by decide +kernel
theorem dX11_copy_40 : decode cX11_copy 40 = .ok (.putfield 48, 3) := by decide +kernel
theorem dX11_copy_43 : decode cX11_copy 43 = .ok (.aload_n 0, 1) := by decide +kernel
theorem dX11_copy_44 : decode cX11_copy 44 = .ok (.getfield 48, 3) := by decide +kernel
theorem dX11_copy_47 : decode cX11_copy 47 = .ok (.ifCond .eq 11, 3) := by decide +kernel
theorem dX11_copy_50 : decode cX11_copy 50 = .ok (.ldc 52, 2) := by decide +kernel
theorem dX11_copy_52 : decode cX11_copy 52 = .ok (.aload_n 0, 1) := by decide +kernel
theorem dX11_copy_53 : decode cX11_copy 53 = .ok (.getfield 48, 3) := by decide +kernel
theorem dX11_copy_56 : decode cX11_copy 56 = .ok (.isub, 1) := by decide +kernel
theorem dX11_copy_57 : decode cX11_copy 57 = .ok (.ireturn, 1) := by decide +kernel
theorem dX11_copy_58 : decode cX11_copy 58 = .ok (.aload_n 0, 1) := by decide +kernel
theorem dX11_copy_59 : decode cX11_copy 59 = .ok (.getfield 10, 3) := by decide +kernel
theorem dX11_copy_62 : decode cX11_copy 62 = .ok (.iload_n 1, 1) := by decide +kernel
theorem dX11_copy_63 : decode cX11_copy 63 = .ok (.iload_n 2, 1) := by decide +kernel
theorem dX11_copy_64 : decode cX11_copy 64 = .ok (.iload_n 3, 1) := by decide +kernel
theorem dX11_copy_65 : decode cX11_copy 65 = .ok (.iload 4, 2) := by decide +kernel
theorem dX11_copy_67 : decode cX11_copy 67 = .ok (.iload 5, 2) := by decide +kernel
theorem dX11_copy_69 : decode cX11_copy 69 = .ok (.invokevirtual 68, 3) := by decide +kernel
theorem dX11_copy_72 : decode cX11_copy 72 = .ok (.iload 5, 2) := by decide +kernel
theorem dX11_copy_74 : decode cX11_copy 74 = .ok (.ireturn, 1) := by decide +kernel
theorem dX11_drop_0 : decode cX11_drop 0 = .ok (.aload_n 0, 1) := by decide +kernel
theorem dX11_drop_1 : decode cX11_drop 1 = .ok (.getfield 10, 3) := by decide +kernel
theorem dX11_drop_4 : decode cX11_drop 4 = .ok (.iload_n 1, 1) := by decide +kernel
theorem dX11_drop_5 : decode cX11_drop 5 = .ok (.invokevirtual 43, 3) := by decide +kernel
theorem dX11_drop_8 : decode cX11_drop 8 = .ok (.ifCond .ne 6, 3) := by decide +kernel
theorem dX11_drop_11 : decode cX11_drop 11 = .ok (.ldc 47, 2) := by decide +kernel
theorem dX11_drop_13 : decode cX11_drop 13 = .ok (.ireturn, 1) := by decide +kernel
theorem dX11_drop_14 : decode cX11_drop 14 = .ok (.aload_n 0, 1) := by decide +kernel
theorem dX11_drop_15 : decode cX11_drop 15 = .ok (.aload_n 0, 1) := by decide +kernel
theorem dX11_drop_16 : decode cX11_drop 16 = .ok (.getfield 10, 3) := by decide +kernel
theorem dX11_drop_19 : decode cX11_drop 19 = .ok (.iload_n 1, 1) := by decide +kernel
theorem dX11_drop_20 : decode cX11_drop 20 = .ok (.invokevirtual 72, 3) := by decide +kernel
theorem dX11_drop_23 : decode cX11_drop 23 = .ok (.ifCond .eq 7, 3) := by decide +kernel
theorem dX11_drop_26 : decode cX11_drop 26 = .ok (.iconst 1, 1) := by decide +kernel
theorem dX11_drop_27 : decode cX11_drop 27 = .ok (.goto 4, 3) := by decide +kernel
theorem dX11_drop_30 : decode cX11_drop 30 = .ok (.iconst 0, 1) := by decide +kernel
theorem dX11_drop_31 : decode cX11_drop 31 = .ok (.putfield 48, 3) := by decide +kernel
theorem dX11_drop_34 : decode cX11_drop 34 = .ok (.aload_n 0, 1) := by decide +kernel
theorem dX11_drop_35 : decode cX11_drop 35 = .ok (.getfield 48, 3) := by decide +kernel
theorem dX11_drop_38 : decode cX11_drop 38 = .ok (.ifCond .eq 13, 3) := by decide +kernel
theorem dX11_drop_41 : decode cX11_drop 41 = .ok (.ldc 52, 2) := by decide +kernel
theorem dX11_drop_43 : decode cX11_drop 43 = .ok (.aload_n 0, 1) := by decide +kernel
theorem dX11_drop_44 : decode cX11_drop 44 = .ok (.getfield 48, 3) := by decide +kernel
theorem dX11_drop_47 : decode cX11_drop 47 = .ok (.isub, 1) := by decide +kernel
theorem dX11_drop_48 : decode cX11_drop 48 = .ok (.goto 11, 3) := by decide +kernel
theorem dX11_drop_51 : decode cX11_drop 51 = .ok (.aload_n 0, 1) := by decide +kernel
theorem dX11_drop_52 : decode cX11_drop 52 = .ok (.getfield 10, 3) := by decide +kernel
theorem dX11_drop_55 : decode cX11_drop 55 = .ok (.iload_n 1, 1) := by decide +kernel
theorem dX11_drop_56 : decode cX11_drop 56 = .ok (.invokevirtual 75, 3) := by decide +kernel
theorem dX11_drop_59 : decode cX11_drop 59 = .ok (.ireturn, 1) := by decide +kernel
theorem dX11_feed_0 : decode cX11_feed 0 = .ok (.iload_n 3, 1) := by decide +kernel
theorem dX11_feed_1 : decode cX11_feed 1 = .ok (.iconst 1, 1) := by decide +kernel
theorem dX11_feed_2 : decode cX11_feed 2 = .ok (.if_icmp .lt 9, 3) := by decide +kernel
theorem dX11_feed_5 : decode cX11_feed 5 = .ok (.iload_n 3, 1) := by decide +kernel
theorem dX11_feed_6 : decode cX11_feed 6 = .ok (.bipush 8, 2) := by decide +kernel
theorem dX11_feed_8 : decode cX11_feed 8 = .ok (.if_icmp .le 6, 3) := by decide +kernel
theorem dX11_feed_11 : decode cX11_feed 11 = .ok (.ldc 47, 2) := by decide +kernel
theorem dX11_feed_13 : decode cX11_feed 13 = .ok (.ireturn, 1) := by decide +kernel
theorem dX11_feed_14 : decode cX11_feed 14 = .ok (.aload_n 0, 1) := by decide +kernel
theorem dX11_feed_15 : decode cX11_feed 15 = .ok (.getfield 79, 3) := by decide +kernel
theorem dX11_feed_18 : decode cX11_feed 18 = .ok (.iload_n 3, 1) := by decide +kernel
theorem dX11_feed_19 : decode cX11_feed 19 = .ok (.iadd, 1) := by decide +kernel
theorem dX11_feed_20 : decode cX11_feed 20 = .ok (.aload_n 0, 1) := by decide +kernel
theorem dX11_feed_21 : decode cX11_feed 21 = .ok (.getfield 16, 3) := by decide +kernel
theorem dX11_feed_24 : decode cX11_feed 24 = .ok (.arraylength, 1) := by decide +kernel
theorem dX11_feed_25 : decode cX11_feed 25 = .ok (.if_icmp .le 6, 3) := by decide +kernel
theorem dX11_feed_28 : decode cX11_feed 28 = .ok (.ldc 82, 2) := by decide +kernel
theorem dX11_feed_30 : decode cX11_feed 30 = .ok (.ireturn, 1) := by decide +kernel
theorem dX11_feed_31 : decode cX11_feed 31 = .ok (.iload_n 3, 1) := by decide +kernel
theorem dX11_feed_32 : decode cX11_feed 32 = .ok (.iconst 1, 1) := by decide +kernel
theorem dX11_feed_33 : decode cX11_feed 33 = .ok (.isub, 1) := by decide +kernel
theorem dX11_feed_34 : decode cX11_feed 34 = .ok (.istore 4, 2) := by decide +kernel
theorem dX11_feed_36 : decode cX11_feed 36 = .ok (.iload 4, 2) := by decide +kernel
theorem dX11_feed_38 : decode cX11_feed 38 = .ok (.ifCond .lt 37, 3) := by decide +kernel
theorem dX11_feed_41 : decode cX11_feed 41 = .ok (.aload_n 0, 1) := by decide +kernel
theorem dX11_feed_42 : decode cX11_feed 42 = .ok (.getfield 16, 3) := by decide +kernel
theorem dX11_feed_45 : decode cX11_feed 45 = .ok (.aload_n 0, 1) := by decide +kernel
theorem dX11_feed_46 : decode cX11_feed 46 = .ok (.getfield 79, 3) := by decide +kernel
theorem dX11_feed_49 : decode cX11_feed 49 = .ok (.lload_n 1, 1) := by decide +kernel
theorem dX11_feed_50 : decode cX11_feed 50 = .ok (.bipush 8, 2) := by decide +kernel
theorem dX11_feed_52 : decode cX11_feed 52 = .ok (.iload 4, 2) := by decide +kernel
theorem dX11_feed_54 : decode cX11_feed 54 = .ok (.imul, 1) := by decide +kernel
theorem dX11_feed_55 : decode cX11_feed 55 = .ok (.lushr, 1) := by decide +kernel
theorem dX11_feed_56 : decode cX11_feed 56 = .ok (.l2i, 1) := by decide +kernel
theorem dX11_feed_57 : decode cX11_feed 57 = .ok (.i2b, 1) := by decide +kernel
theorem dX11_feed_58 : decode cX11_feed 58 = .ok (.bastore, 1) := by decide +kernel
theorem dX11_feed_59 : decode cX11_feed 59 = .ok (.aload_n 0, 1) := by decide +kernel
theorem dX11_feed_60 : decode cX11_feed 60 = .ok (.dup, 1) := by decide +kernel
theorem dX11_feed_61 : decode cX11_feed 61 = .ok (.getfield 79, 3) := by decide +kernel
theorem dX11_feed_64 : decode cX11_feed 64 = .ok (.iconst 1, 1) := by decide +kernel
theorem dX11_feed_65 : decode cX11_feed 65 = .ok (.iadd, 1) := by decide +kernel
theorem dX11_feed_66 : decode cX11_feed 66 = .ok (.putfield 79, 3) := by decide +kernel
theorem dX11_feed_69 : decode cX11_feed 69 = .ok (.iinc 4 (-1), 3) := by decide +kernel
theorem dX11_feed_72 : decode cX11_feed 72 = .ok (.goto (-36), 3) := by decide +kernel
theorem dX11_feed_75 : decode cX11_feed 75 = .ok (.aload_n 0, 1) := by decide +kernel
theorem dX11_feed_76 : decode cX11_feed 76 = .ok (.getfield 79, 3) := by decide +kernel
theorem dX11_feed_79 : decode cX11_feed 79 = .ok (.ireturn, 1) := by decide +kernel
theorem dX11_library_0 : decode cX11_library 0 = .ok (.new 83, 3) := by decide +kernel
theorem dX11_library_3 : decode cX11_library 3 = .ok (.dup, 1) := by decide +kernel
theorem dX11_library_4 : decode cX11_library 4 = .ok (.aload_n 0, 1) := by decide +kernel
theorem dX11_library_5 : decode cX11_library 5 = .ok (.getfield 16, 3) := by decide +kernel
theorem dX11_library_8 : decode cX11_library 8 = .ok (.aload_n 0, 1) := by decide +kernel
theorem dX11_library_9 : decode cX11_library 9 = .ok (.getfield 79, 3) := by decide +kernel
theorem dX11_library_12 : decode cX11_library 12 = .ok (.invokespecial 85, 3) := by decide +kernel
theorem dX11_library_15 : decode cX11_library 15 = .ok (.astore_n 1, 1) := by decide +kernel
theorem dX11_library_16 : decode cX11_library 16 = .ok (.aload_n 0, 1) := by decide +kernel
theorem dX11_library_17 : decode cX11_library 17 = .ok (.iconst 0, 1) := by decide +kernel
theorem dX11_library_18 : decode cX11_library 18 = .ok (.putfield 79, 3) := by decide +kernel
theorem dX11_library_21 : decode cX11_library 21 = .ok (.aload_n 1, 1) := by decide +kernel
theorem dX11_library_22 : decode cX11_library 22 = .ok (.invokevirtual 88, 3) := by decide +kernel
theorem dX11_library_25 : decode cX11_library 25 = .ok (.ifCond .ne 19, 3) := by decide +kernel
theorem dX11_library_28 : decode cX11_library 28 = .ok (.aload_n 0, 1) := by decide +kernel
theorem dX11_library_29 : decode cX11_library 29 = .ok (.aload_n 1, 1) := by decide +kernel
theorem dX11_library_30 : decode cX11_library 30 = .ok (.getfield 92, 3) := by decide +kernel
theorem dX11_library_33 : decode cX11_library 33 = .ok (.putfield 95, 3) := by decide +kernel
theorem dX11_library_36 : decode cX11_library 36 = .ok (.ldc 98, 2) := by decide +kernel
theorem dX11_library_38 : decode cX11_library 38 = .ok (.aload_n 1, 1) := by decide +kernel
theorem dX11_library_39 : decode cX11_library 39 = .ok (.getfield 99, 3) := by decide +kernel
theorem dX11_library_42 : decode cX11_library 42 = .ok (.isub, 1) := by decide +kernel
theorem dX11_library_43 : decode cX11_library 43 = .ok (.ireturn, 1) := by decide +kernel
theorem dX11_library_44 : decode cX11_library 44 = .ok (.aload_n 0, 1) := by decide +kernel
theorem dX11_library_45 : decode cX11_library 45 = .ok (.aload_n 1, 1) := by decide +kernel
theorem dX11_library_46 : decode cX11_library 46 = .ok (.getfield 102, 3) := by decide +kernel
theorem dX11_library_49 : decode cX11_library 49 = .ok (.putfield 25, 3) := by decide +kernel
theorem dX11_library_52 : decode cX11_library 52 = .ok (.aload_n 0, 1) := by decide +kernel
theorem dX11_library_53 : decode cX11_library 53 = .ok (.invokevirtual 105, 3) := by decide +kernel
theorem dX11_library_56 : decode cX11_library 56 = .ok (.aload_n 0, 1) := by decide +kernel
theorem dX11_library_57 : decode cX11_library 57 = .ok (.getfield 25, 3) := by decide +kernel
theorem dX11_library_60 : decode cX11_library 60 = .ok (.invokevirtual 108, 3) := by decide +kernel
theorem dX11_library_63 : decode cX11_library 63 = .ok (.ireturn, 1) := by decide +kernel
theorem dX11_fault_0 : decode cX11_fault 0 = .ok (.aload_n 0, 1) := by decide +kernel
theorem dX11_fault_1 : decode cX11_fault 1 = .ok (.getfield 95, 3) := by decide +kernel
theorem dX11_fault_4 : decode cX11_fault 4 = .ok (.ireturn, 1) := by decide +kernel
theorem dX11_hours_0 : decode cX11_hours 0 = .ok (.aload_n 0, 1) := by decide +kernel
theorem dX11_hours_1 : decode cX11_hours 1 = .ok (.getfield 25, 3) := by decide +kernel
theorem dX11_hours_4 : decode cX11_hours 4 = .ok (.invokevirtual 112, 3) := by decide +kernel
theorem dX11_hours_7 : decode cX11_hours 7 = .ok (.ifCond .ne 6, 3) := by decide +kernel
theorem dX11_hours_10 : decode cX11_hours 10 = .ok (.ldc 115, 2) := by decide +kernel
theorem dX11_hours_12 : decode cX11_hours 12 = .ok (.ireturn, 1) := by decide +kernel
theorem dX11_hours_13 : decode cX11_hours 13 = .ok (.iload_n 1, 1) := by decide +kernel
theorem dX11_hours_14 : decode cX11_hours 14 = .ok (.iconst 1, 1) := by decide +kernel
theorem dX11_hours_15 : decode cX11_hours 15 = .ok (.if_icmp .lt 9, 3) := by decide +kernel
theorem dX11_hours_18 : decode cX11_hours 18 = .ok (.iload_n 1, 1) := by decide +kernel
theorem dX11_hours_19 : decode cX11_hours 19 = .ok (.bipush 24, 2) := by decide +kernel
theorem dX11_hours_21 : decode cX11_hours 21 = .ok (.if_icmp .le 6, 3) := by decide +kernel
theorem dX11_hours_24 : decode cX11_hours 24 = .ok (.ldc 47, 2) := by decide +kernel
theorem dX11_hours_26 : decode cX11_hours 26 = .ok (.ireturn, 1) := by decide +kernel
theorem dX11_hours_27 : decode cX11_hours 27 = .ok (.aload_n 0, 1) := by decide +kernel
theorem dX11_hours_28 : decode cX11_hours 28 = .ok (.getfield 25, 3) := by decide +kernel
theorem dX11_hours_31 : decode cX11_hours 31 = .ok (.getfield 116, 3) := by decide +kernel
theorem dX11_hours_34 : decode cX11_hours 34 = .ok (.iload_n 1, 1) := by decide +kernel
theorem dX11_hours_35 : decode cX11_hours 35 = .ok (.iadd, 1) := by decide +kernel
theorem dX11_hours_36 : decode cX11_hours 36 = .ok (.sipush 999, 3) := by decide +kernel
theorem dX11_hours_39 : decode cX11_hours 39 = .ok (.if_icmp .le 6, 3) := by decide +kernel
theorem dX11_hours_42 : decode cX11_hours 42 = .ok (.ldc 82, 2) := by decide +kernel
theorem dX11_hours_44 : decode cX11_hours 44 = .ok (.ireturn, 1) := by decide +kernel
theorem dX11_hours_45 : decode cX11_hours 45 = .ok (.iconst 0, 1) := by decide +kernel
theorem dX11_hours_46 : decode cX11_hours 46 = .ok (.istore_n 2, 1) := by decide +kernel
theorem dX11_hours_47 : decode cX11_hours 47 = .ok (.iload_n 2, 1) := by decide +kernel
theorem dX11_hours_48 : decode cX11_hours 48 = .ok (.iload_n 1, 1) := by decide +kernel
theorem dX11_hours_49 : decode cX11_hours 49 = .ok (.if_icmp .ge 20, 3) := by decide +kernel
theorem dX11_hours_52 : decode cX11_hours 52 = .ok (.aload_n 0, 1) := by decide +kernel
theorem dX11_hours_53 : decode cX11_hours 53 = .ok (.invokevirtual 119, 3) := by decide +kernel
theorem dX11_hours_56 : decode cX11_hours 56 = .ok (.aload_n 0, 1) := by decide +kernel
theorem dX11_hours_57 : decode cX11_hours 57 = .ok (.getfield 25, 3) := by decide +kernel
theorem dX11_hours_60 : decode cX11_hours 60 = .ok (.invokevirtual 122, 3) := by decide +kernel
theorem dX11_hours_63 : decode cX11_hours 63 = .ok (.iinc 2 1, 3) := by decide +kernel
theorem dX11_hours_66 : decode cX11_hours 66 = .ok (.goto (-19), 3) := by decide +kernel
theorem dX11_hours_69 : decode cX11_hours 69 = .ok (.aload_n 0, 1) := by decide +kernel
theorem dX11_hours_70 : decode cX11_hours 70 = .ok (.getfield 25, 3) := by decide +kernel
theorem dX11_hours_73 : decode cX11_hours 73 = .ok (.getfield 116, 3) := by decide +kernel
theorem dX11_hours_76 : decode cX11_hours 76 = .ok (.ireturn, 1) := by decide +kernel
theorem dX11_take_0 : decode cX11_take 0 = .ok (.aload_n 0, 1) := by decide +kernel
theorem dX11_take_1 : decode cX11_take 1 = .ok (.getfield 25, 3) := by decide +kernel
theorem dX11_take_4 : decode cX11_take 4 = .ok (.iload_n 1, 1) := by decide +kernel
theorem dX11_take_5 : decode cX11_take 5 = .ok (.invokevirtual 125, 3) := by decide +kernel
theorem dX11_take_8 : decode cX11_take 8 = .ok (.ifCond .eq 14, 3) := by decide +kernel
theorem dX11_take_11 : decode cX11_take 11 = .ok (.iload_n 2, 1) := by decide +kernel
theorem dX11_take_12 : decode cX11_take 12 = .ok (.iconst 1, 1) := by decide +kernel
theorem dX11_take_13 : decode cX11_take 13 = .ok (.if_icmp .lt 9, 3) := by decide +kernel
theorem dX11_take_16 : decode cX11_take 16 = .ok (.iload_n 2, 1) := by decide +kernel
theorem dX11_take_17 : decode cX11_take 17 = .ok (.bipush 48, 2) := by decide +kernel
theorem dX11_take_19 : decode cX11_take 19 = .ok (.if_icmp .le 6, 3) := by decide +kernel
theorem dX11_take_22 : decode cX11_take 22 = .ok (.ldc 47, 2) := by decide +kernel
theorem dX11_take_24 : decode cX11_take 24 = .ok (.ireturn, 1) := by decide +kernel
theorem dX11_take_25 : decode cX11_take 25 = .ok (.aload_n 0, 1) := by decide +kernel
theorem dX11_take_26 : decode cX11_take 26 = .ok (.getfield 25, 3) := by decide +kernel
theorem dX11_take_29 : decode cX11_take 29 = .ok (.iload_n 1, 1) := by decide +kernel
theorem dX11_take_30 : decode cX11_take 30 = .ok (.invokevirtual 128, 3) := by decide +kernel
theorem dX11_take_33 : decode cX11_take 33 = .ok (.ifCond .eq 6, 3) := by decide +kernel
theorem dX11_take_36 : decode cX11_take 36 = .ok (.ldc 115, 2) := by decide +kernel
theorem dX11_take_38 : decode cX11_take 38 = .ok (.ireturn, 1) := by decide +kernel
theorem dX11_take_39 : decode cX11_take 39 = .ok (.aload_n 0, 1) := by decide +kernel
theorem dX11_take_40 : decode cX11_take 40 = .ok (.invokevirtual 119, 3) := by decide +kernel
theorem dX11_take_43 : decode cX11_take 43 = .ok (.aload_n 0, 1) := by decide +kernel
theorem dX11_take_44 : decode cX11_take 44 = .ok (.getfield 25, 3) := by decide +kernel
theorem dX11_take_47 : decode cX11_take 47 = .ok (.getfield 131, 3) := by decide +kernel
theorem dX11_take_50 : decode cX11_take 50 = .ok (.iload_n 1, 1) := by decide +kernel
theorem dX11_take_51 : decode cX11_take 51 = .ok (.iload_n 2, 1) := by decide +kernel
theorem dX11_take_52 : decode cX11_take 52 = .ok (.iastore, 1) := by decide +kernel
theorem dX11_take_53 : decode cX11_take 53 = .ok (.aload_n 0, 1) := by decide +kernel
theorem dX11_take_54 : decode cX11_take 54 = .ok (.getfield 25, 3) := by decide +kernel
theorem dX11_take_57 : decode cX11_take 57 = .ok (.iload_n 1, 1) := by decide +kernel
theorem dX11_take_58 : decode cX11_take 58 = .ok (.invokevirtual 135, 3) := by decide +kernel
theorem dX11_take_61 : decode cX11_take 61 = .ok (.ireturn, 1) := by decide +kernel
theorem dX11_change_0 : decode cX11_change 0 = .ok (.aload_n 0, 1) := by decide +kernel
theorem dX11_change_1 : decode cX11_change 1 = .ok (.getfield 25, 3) := by decide +kernel
theorem dX11_change_4 : decode cX11_change 4 = .ok (.iload_n 1, 1) := by decide +kernel
theorem dX11_change_5 : decode cX11_change 5 = .ok (.invokevirtual 125, 3) := by decide +kernel
theorem dX11_change_8 : decode cX11_change 8 = .ok (.ifCond .eq 19, 3) := by decide +kernel
theorem dX11_change_11 : decode cX11_change 11 = .ok (.aload_n 0, 1) := by decide +kernel
theorem dX11_change_12 : decode cX11_change 12 = .ok (.getfield 25, 3) := by decide +kernel
theorem dX11_change_15 : decode cX11_change 15 = .ok (.iload_n 2, 1) := by decide +kernel
theorem dX11_change_16 : decode cX11_change 16 = .ok (.invokevirtual 125, 3) := by decide +kernel
theorem dX11_change_19 : decode cX11_change 19 = .ok (.ifCond .eq 8, 3) := by decide +kernel
theorem dX11_change_22 : decode cX11_change 22 = .ok (.iload_n 1, 1) := by decide +kernel
theorem dX11_change_23 : decode cX11_change 23 = .ok (.iload_n 2, 1) := by decide +kernel
theorem dX11_change_24 : decode cX11_change 24 = .ok (.if_icmp .ne 6, 3) := by decide +kernel
theorem dX11_change_27 : decode cX11_change 27 = .ok (.ldc 47, 2) := by decide +kernel
theorem dX11_change_29 : decode cX11_change 29 = .ok (.ireturn, 1) := by decide +kernel
theorem dX11_change_30 : decode cX11_change 30 = .ok (.aload_n 0, 1) := by decide +kernel
theorem dX11_change_31 : decode cX11_change 31 = .ok (.getfield 25, 3) := by decide +kernel
theorem dX11_change_34 : decode cX11_change 34 = .ok (.iload_n 1, 1) := by decide +kernel
theorem dX11_change_35 : decode cX11_change 35 = .ok (.invokevirtual 128, 3) := by decide +kernel
theorem dX11_change_38 : decode cX11_change 38 = .ok (.ifCond .ne 14, 3) := by decide +kernel
theorem dX11_change_41 : decode cX11_change 41 = .ok (.aload_n 0, 1) := by decide +kernel
theorem dX11_change_42 : decode cX11_change 42 = .ok (.getfield 25, 3) := by decide +kernel
theorem dX11_change_45 : decode cX11_change 45 = .ok (.iload_n 2, 1) := by decide +kernel
theorem dX11_change_46 : decode cX11_change 46 = .ok (.invokevirtual 128, 3) := by decide +kernel
theorem dX11_change_49 : decode cX11_change 49 = .ok (.ifCond .eq 6, 3) := by decide +kernel
theorem dX11_change_52 : decode cX11_change 52 = .ok (.ldc 115, 2) := by decide +kernel
theorem dX11_change_54 : decode cX11_change 54 = .ok (.ireturn, 1) := by decide +kernel
theorem dX11_change_55 : decode cX11_change 55 = .ok (.aload_n 0, 1) := by decide +kernel
theorem dX11_change_56 : decode cX11_change 56 = .ok (.invokevirtual 119, 3) := by decide +kernel
theorem dX11_change_59 : decode cX11_change 59 = .ok (.aload_n 0, 1) := by decide +kernel
theorem dX11_change_60 : decode cX11_change 60 = .ok (.getfield 25, 3) := by decide +kernel
theorem dX11_change_63 : decode cX11_change 63 = .ok (.iload_n 1, 1) := by decide +kernel
theorem dX11_change_64 : decode cX11_change 64 = .ok (.iload_n 2, 1) := by decide +kernel
theorem dX11_change_65 : decode cX11_change 65 = .ok (.invokevirtual 138, 3) := by decide +kernel
theorem dX11_change_68 : decode cX11_change 68 = .ok (.aload_n 0, 1) := by decide +kernel
theorem dX11_change_69 : decode cX11_change 69 = .ok (.getfield 25, 3) := by decide +kernel
theorem dX11_change_72 : decode cX11_change 72 = .ok (.getfield 142, 3) := by decide +kernel
theorem dX11_change_75 : decode cX11_change 75 = .ok (.iload_n 1, 1) := by decide +kernel
theorem dX11_change_76 : decode cX11_change 76 = .ok (.iaload, 1) := by decide +kernel
theorem dX11_change_77 : decode cX11_change 77 = .ok (.ireturn, 1) := by decide +kernel
theorem dX11_dusts_0 : decode cX11_dusts 0 = .ok (.aload_n 0, 1) := by decide +kernel
theorem dX11_dusts_1 : decode cX11_dusts 1 = .ok (.getfield 25, 3) := by decide +kernel
theorem dX11_dusts_4 : decode cX11_dusts 4 = .ok (.invokevirtual 112, 3) := by decide +kernel
theorem dX11_dusts_7 : decode cX11_dusts 7 = .ok (.ifCond .ne 6, 3) := by decide +kernel
theorem dX11_dusts_10 : decode cX11_dusts 10 = .ok (.ldc 115, 2) := by decide +kernel
theorem dX11_dusts_12 : decode cX11_dusts 12 = .ok (.ireturn, 1) := by decide +kernel
theorem dX11_dusts_13 : decode cX11_dusts 13 = .ok (.aload_n 0, 1) := by decide +kernel
theorem dX11_dusts_14 : decode cX11_dusts 14 = .ok (.getfield 25, 3) := by decide +kernel
theorem dX11_dusts_17 : decode cX11_dusts 17 = .ok (.iload_n 1, 1) := by decide +kernel
theorem dX11_dusts_18 : decode cX11_dusts 18 = .ok (.invokevirtual 145, 3) := by decide +kernel
theorem dX11_dusts_21 : decode cX11_dusts 21 = .ok (.ifCond .ne 6, 3) := by decide +kernel
theorem dX11_dusts_24 : decode cX11_dusts 24 = .ok (.ldc 47, 2) := by decide +kernel
theorem dX11_dusts_26 : decode cX11_dusts 26 = .ok (.ireturn, 1) := by decide +kernel
theorem dX11_dusts_27 : decode cX11_dusts 27 = .ok (.aload_n 0, 1) := by decide +kernel
theorem dX11_dusts_28 : decode cX11_dusts 28 = .ok (.invokevirtual 119, 3) := by decide +kernel
theorem dX11_dusts_31 : decode cX11_dusts 31 = .ok (.iconst 0, 1) := by decide +kernel
theorem dX11_dusts_32 : decode cX11_dusts 32 = .ok (.istore_n 2, 1) := by decide +kernel
theorem dX11_dusts_33 : decode cX11_dusts 33 = .ok (.iconst 0, 1) := by decide +kernel
theorem dX11_dusts_34 : decode cX11_dusts 34 = .ok (.istore_n 3, 1) := by decide +kernel
theorem dX11_dusts_35 : decode cX11_dusts 35 = .ok (.iload_n 3, 1) := by decide +kernel
theorem dX11_dusts_36 : decode cX11_dusts 36 = .ok (.aload_n 0, 1) := by decide +kernel
theorem dX11_dusts_37 : decode cX11_dusts 37 = .ok (.getfield 25, 3) := by decide +kernel
theorem dX11_dusts_40 : decode cX11_dusts 40 = .ok (.invokevirtual 108, 3) := by decide +kernel
theorem dX11_dusts_43 : decode cX11_dusts 43 = .ok (.if_icmp .ge 28, 3) := by decide +kernel
theorem dX11_dusts_46 : decode cX11_dusts 46 = .ok (.iload_n 1, 1) := by decide +kernel
theorem dX11_dusts_47 : decode cX11_dusts 47 = .ok (.iload_n 3, 1) := by decide +kernel
theorem dX11_dusts_48 : decode cX11_dusts 48 = .ok (.invokestatic 148, 3) := by decide +kernel
theorem dX11_dusts_51 : decode cX11_dusts 51 = .ok (.ifCond .eq 14, 3) := by decide +kernel
theorem dX11_dusts_54 : decode cX11_dusts 54 = .ok (.iload_n 2, 1) := by decide +kernel
theorem dX11_dusts_55 : decode cX11_dusts 55 = .ok (.aload_n 0, 1) := by decide +kernel
theorem dX11_dusts_56 : decode cX11_dusts 56 = .ok (.getfield 25, 3) := by decide +kernel
theorem dX11_dusts_59 : decode cX11_dusts 59 = .ok (.iload_n 3, 1) := by decide +kernel
theorem dX11_dusts_60 : decode cX11_dusts 60 = .ok (.invokevirtual 135, 3) := by decide +kernel
theorem dX11_dusts_63 : decode cX11_dusts 63 = .ok (.iadd, 1) := by decide +kernel
theorem dX11_dusts_64 : decode cX11_dusts 64 = .ok (.istore_n 2, 1) := by decide +kernel
theorem dX11_dusts_65 : decode cX11_dusts 65 = .ok (.iinc 3 1, 3) := by decide +kernel
theorem dX11_dusts_68 : decode cX11_dusts 68 = .ok (.goto (-33), 3) := by decide +kernel
theorem dX11_dusts_71 : decode cX11_dusts 71 = .ok (.iload_n 2, 1) := by decide +kernel
theorem dX11_dusts_72 : decode cX11_dusts 72 = .ok (.ireturn, 1) := by decide +kernel
theorem dX11_undo_0 : decode cX11_undo 0 = .ok (.aload_n 0, 1) := by decide +kernel
theorem dX11_undo_1 : decode cX11_undo 1 = .ok (.getfield 152, 3) := by decide +kernel
theorem dX11_undo_4 : decode cX11_undo 4 = .ok (.ifCond .ne 6, 3) := by decide +kernel
theorem dX11_undo_7 : decode cX11_undo 7 = .ok (.ldc 115, 2) := by decide +kernel
theorem dX11_undo_9 : decode cX11_undo 9 = .ok (.ireturn, 1) := by decide +kernel
theorem dX11_undo_10 : decode cX11_undo 10 = .ok (.aload_n 0, 1) := by decide +kernel
theorem dX11_undo_11 : decode cX11_undo 11 = .ok (.dup, 1) := by decide +kernel
theorem dX11_undo_12 : decode cX11_undo 12 = .ok (.getfield 152, 3) := by decide +kernel
theorem dX11_undo_15 : decode cX11_undo 15 = .ok (.iconst 1, 1) := by decide +kernel
theorem dX11_undo_16 : decode cX11_undo 16 = .ok (.isub, 1) := by decide +kernel
theorem dX11_undo_17 : decode cX11_undo 17 = .ok (.putfield 152, 3) := by decide +kernel
theorem dX11_undo_20 : decode cX11_undo 20 = .ok (.aload_n 0, 1) := by decide +kernel
theorem dX11_undo_21 : decode cX11_undo 21 = .ok (.getfield 25, 3) := by decide +kernel
theorem dX11_undo_24 : decode cX11_undo 24 = .ok (.aload_n 0, 1) := by decide +kernel
theorem dX11_undo_25 : decode cX11_undo 25 = .ok (.getfield 29, 3) := by decide +kernel
theorem dX11_undo_28 : decode cX11_undo 28 = .ok (.aload_n 0, 1) := by decide +kernel
theorem dX11_undo_29 : decode cX11_undo 29 = .ok (.getfield 155, 3) := by decide +kernel
theorem dX11_undo_32 : decode cX11_undo 32 = .ok (.aload_n 0, 1) := by decide +kernel
theorem dX11_undo_33 : decode cX11_undo 33 = .ok (.getfield 152, 3) := by decide +kernel
theorem dX11_undo_36 : decode cX11_undo 36 = .ok (.iadd, 1) := by decide +kernel
theorem dX11_undo_37 : decode cX11_undo 37 = .ok (.bipush 24, 2) := by decide +kernel
theorem dX11_undo_39 : decode cX11_undo 39 = .ok (.irem, 1) := by decide +kernel
theorem dX11_undo_40 : decode cX11_undo 40 = .ok (.aaload, 1) := by decide +kernel
theorem dX11_undo_41 : decode cX11_undo 41 = .ok (.invokevirtual 158, 3) := by decide +kernel
theorem dX11_undo_44 : decode cX11_undo 44 = .ok (.aload_n 0, 1) := by decide +kernel
theorem dX11_undo_45 : decode cX11_undo 45 = .ok (.getfield 152, 3) := by decide +kernel
theorem dX11_undo_48 : decode cX11_undo 48 = .ok (.ireturn, 1) := by decide +kernel
theorem dX11_spot_0 : decode cX11_spot 0 = .ok (.aload_n 0, 1) := by decide +kernel
theorem dX11_spot_1 : decode cX11_spot 1 = .ok (.getfield 25, 3) := by decide +kernel
theorem dX11_spot_4 : decode cX11_spot 4 = .ok (.iload_n 1, 1) := by decide +kernel
theorem dX11_spot_5 : decode cX11_spot 5 = .ok (.invokevirtual 162, 3) := by decide +kernel
theorem dX11_spot_8 : decode cX11_spot 8 = .ok (.astore_n 3, 1) := by decide +kernel
theorem dX11_spot_9 : decode cX11_spot 9 = .ok (.aload_n 3, 1) := by decide +kernel
theorem dX11_spot_10 : decode cX11_spot 10 = .ok (.ifnonnull 6, 3) := by decide +kernel
theorem dX11_spot_13 : decode cX11_spot 13 = .ok (.ldc 47, 2) := by decide +kernel
theorem dX11_spot_15 : decode cX11_spot 15 = .ok (.ireturn, 1) := by decide +kernel
theorem dX11_spot_16 : decode cX11_spot 16 = .ok (.iload_n 2, 1) := by decide +kernel
theorem dX11_spot_17 : decode cX11_spot 17 = .ok (.tableswitch 80 0 4 #[35, 40, 50, 60, 70], 35) := by decide +kernel
theorem dX11_spot_52 : decode cX11_spot 52 = .ok (.aload_n 3, 1) := by decide +kernel
theorem dX11_spot_53 : decode cX11_spot 53 = .ok (.getfield 166, 3) := by decide +kernel
theorem dX11_spot_56 : decode cX11_spot 56 = .ok (.ireturn, 1) := by decide +kernel
theorem dX11_spot_57 : decode cX11_spot 57 = .ok (.aload_n 0, 1) := by decide +kernel
theorem dX11_spot_58 : decode cX11_spot 58 = .ok (.getfield 25, 3) := by decide +kernel
theorem dX11_spot_61 : decode cX11_spot 61 = .ok (.getfield 171, 3) := by decide +kernel
theorem dX11_spot_64 : decode cX11_spot 64 = .ok (.iload_n 1, 1) := by decide +kernel
theorem dX11_spot_65 : decode cX11_spot 65 = .ok (.iaload, 1) := by decide +kernel
theorem dX11_spot_66 : decode cX11_spot 66 = .ok (.ireturn, 1) := by decide +kernel
theorem dX11_spot_67 : decode cX11_spot 67 = .ok (.aload_n 0, 1) := by decide +kernel
theorem dX11_spot_68 : decode cX11_spot 68 = .ok (.getfield 25, 3) := by decide +kernel
theorem dX11_spot_71 : decode cX11_spot 71 = .ok (.getfield 142, 3) := by decide +kernel
theorem dX11_spot_74 : decode cX11_spot 74 = .ok (.iload_n 1, 1) := by decide +kernel
theorem dX11_spot_75 : decode cX11_spot 75 = .ok (.iaload, 1) := by decide +kernel
theorem dX11_spot_76 : decode cX11_spot 76 = .ok (.ireturn, 1) := by decide +kernel
theorem dX11_spot_77 : decode cX11_spot 77 = .ok (.aload_n 0, 1) := by decide +kernel
theorem dX11_spot_78 : decode cX11_spot 78 = .ok (.getfield 25, 3) := by decide +kernel
theorem dX11_spot_81 : decode cX11_spot 81 = .ok (.getfield 174, 3) := by decide +kernel
theorem dX11_spot_84 : decode cX11_spot 84 = .ok (.iload_n 1, 1) := by decide +kernel
theorem dX11_spot_85 : decode cX11_spot 85 = .ok (.iaload, 1) := by decide +kernel
theorem dX11_spot_86 : decode cX11_spot 86 = .ok (.ireturn, 1) := by decide +kernel
theorem dX11_spot_87 : decode cX11_spot 87 = .ok (.aload_n 0, 1) := by decide +kernel
theorem dX11_spot_88 : decode cX11_spot 88 = .ok (.getfield 25, 3) := by decide +kernel
theorem dX11_spot_91 : decode cX11_spot 91 = .ok (.getfield 131, 3) := by decide +kernel
theorem dX11_spot_94 : decode cX11_spot 94 = .ok (.iload_n 1, 1) := by decide +kernel
theorem dX11_spot_95 : decode cX11_spot 95 = .ok (.iaload, 1) := by decide +kernel
theorem dX11_spot_96 : decode cX11_spot 96 = .ok (.ireturn, 1) := by decide +kernel
theorem dX11_spot_97 : decode cX11_spot 97 = .ok (.ldc 47, 2) := by decide +kernel
theorem dX11_spot_99 : decode cX11_spot 99 = .ok (.ireturn, 1) := by decide +kernel
theorem dX11_fall_0 : decode cX11_fall 0 = .ok (.aload_n 0, 1) := by decide +kernel
theorem dX11_fall_1 : decode cX11_fall 1 = .ok (.getfield 25, 3) := by decide +kernel
theorem dX11_fall_4 : decode cX11_fall 4 = .ok (.iload_n 1, 1) := by decide +kernel
theorem dX11_fall_5 : decode cX11_fall 5 = .ok (.invokevirtual 162, 3) := by decide +kernel
theorem dX11_fall_8 : decode cX11_fall 8 = .ok (.astore 4, 2) := by decide +kernel
theorem dX11_fall_10 : decode cX11_fall 10 = .ok (.aload 4, 2) := by decide +kernel
theorem dX11_fall_12 : decode cX11_fall 12 = .ok (.ifnull 21, 3) := by decide +kernel
theorem dX11_fall_15 : decode cX11_fall 15 = .ok (.iload_n 2, 1) := by decide +kernel
theorem dX11_fall_16 : decode cX11_fall 16 = .ok (.ifCond .lt 17, 3) := by decide +kernel
theorem dX11_fall_19 : decode cX11_fall 19 = .ok (.iload_n 2, 1) := by decide +kernel
theorem dX11_fall_20 : decode cX11_fall 20 = .ok (.sipush 999, 3) := by decide +kernel
theorem dX11_fall_23 : decode cX11_fall 23 = .ok (.if_icmp .gt 10, 3) := by decide +kernel
theorem dX11_fall_26 : decode cX11_fall 26 = .ok (.iload_n 3, 1) := by decide +kernel
theorem dX11_fall_27 : decode cX11_fall 27 = .ok (.invokestatic 177, 3) := by decide +kernel
theorem dX11_fall_30 : decode cX11_fall 30 = .ok (.ifCond .ne 6, 3) := by decide +kernel
theorem dX11_fall_33 : decode cX11_fall 33 = .ok (.ldc 47, 2) := by decide +kernel
theorem dX11_fall_35 : decode cX11_fall 35 = .ok (.ireturn, 1) := by decide +kernel
theorem dX11_fall_36 : decode cX11_fall 36 = .ok (.iload_n 3, 1) := by decide +kernel
theorem dX11_fall_37 : decode cX11_fall 37 = .ok (.ifCond .ne 17, 3) := by decide +kernel
theorem dX11_fall_40 : decode cX11_fall 40 = .ok (.aload 4, 2) := by decide +kernel
theorem dX11_fall_42 : decode cX11_fall 42 = .ok (.aload 4, 2) := by decide +kernel
theorem dX11_fall_44 : decode cX11_fall 44 = .ok (.getfield 166, 3) := by decide +kernel
theorem dX11_fall_47 : decode cX11_fall 47 = .ok (.iload_n 2, 1) := by decide +kernel
theorem dX11_fall_48 : decode cX11_fall 48 = .ok (.invokevirtual 180, 3) := by decide +kernel
theorem dX11_fall_51 : decode cX11_fall 51 = .ok (.goto 9, 3) := by decide +kernel
theorem dX11_fall_54 : decode cX11_fall 54 = .ok (.aload 4, 2) := by decide +kernel
theorem dX11_fall_56 : decode cX11_fall 56 = .ok (.iload_n 2, 1) := by decide +kernel
theorem dX11_fall_57 : decode cX11_fall 57 = .ok (.invokevirtual 184, 3) := by decide +kernel
theorem dX11_fall_60 : decode cX11_fall 60 = .ok (.ireturn, 1) := by decide +kernel
theorem dX11_ahead_0 : decode cX11_ahead 0 = .ok (.aload_n 0, 1) := by decide +kernel
theorem dX11_ahead_1 : decode cX11_ahead 1 = .ok (.getfield 25, 3) := by decide +kernel
theorem dX11_ahead_4 : decode cX11_ahead 4 = .ok (.iload_n 1, 1) := by decide +kernel
theorem dX11_ahead_5 : decode cX11_ahead 5 = .ok (.invokevirtual 125, 3) := by decide +kernel
theorem dX11_ahead_8 : decode cX11_ahead 8 = .ok (.ifCond .eq 20, 3) := by decide +kernel
theorem dX11_ahead_11 : decode cX11_ahead 11 = .ok (.iload_n 2, 1) := by decide +kernel
theorem dX11_ahead_12 : decode cX11_ahead 12 = .ok (.ifCond .lt 16, 3) := by decide +kernel
theorem dX11_ahead_15 : decode cX11_ahead 15 = .ok (.iload_n 2, 1) := by decide +kernel
theorem dX11_ahead_16 : decode cX11_ahead 16 = .ok (.bipush 99, 2) := by decide +kernel
theorem dX11_ahead_18 : decode cX11_ahead 18 = .ok (.if_icmp .gt 10, 3) := by decide +kernel
theorem dX11_ahead_21 : decode cX11_ahead 21 = .ok (.iload_n 3, 1) := by decide +kernel
theorem dX11_ahead_22 : decode cX11_ahead 22 = .ok (.invokestatic 177, 3) := by decide +kernel
theorem dX11_ahead_25 : decode cX11_ahead 25 = .ok (.ifCond .ne 6, 3) := by decide +kernel
theorem dX11_ahead_28 : decode cX11_ahead 28 = .ok (.ldc 47, 2) := by decide +kernel
theorem dX11_ahead_30 : decode cX11_ahead 30 = .ok (.ireturn, 1) := by decide +kernel
theorem dX11_ahead_31 : decode cX11_ahead 31 = .ok (.iload_n 3, 1) := by decide +kernel
theorem dX11_ahead_32 : decode cX11_ahead 32 = .ok (.ifCond .ne 15, 3) := by decide +kernel
theorem dX11_ahead_35 : decode cX11_ahead 35 = .ok (.aload_n 0, 1) := by decide +kernel
theorem dX11_ahead_36 : decode cX11_ahead 36 = .ok (.getfield 25, 3) := by decide +kernel
theorem dX11_ahead_39 : decode cX11_ahead 39 = .ok (.iload_n 1, 1) := by decide +kernel
theorem dX11_ahead_40 : decode cX11_ahead 40 = .ok (.iload_n 2, 1) := by decide +kernel
theorem dX11_ahead_41 : decode cX11_ahead 41 = .ok (.invokevirtual 187, 3) := by decide +kernel
theorem dX11_ahead_44 : decode cX11_ahead 44 = .ok (.goto 12, 3) := by decide +kernel
theorem dX11_ahead_47 : decode cX11_ahead 47 = .ok (.aload_n 0, 1) := by decide +kernel
theorem dX11_ahead_48 : decode cX11_ahead 48 = .ok (.getfield 25, 3) := by decide +kernel
theorem dX11_ahead_51 : decode cX11_ahead 51 = .ok (.iload_n 1, 1) := by decide +kernel
theorem dX11_ahead_52 : decode cX11_ahead 52 = .ok (.iload_n 2, 1) := by decide +kernel
theorem dX11_ahead_53 : decode cX11_ahead 53 = .ok (.invokevirtual 190, 3) := by decide +kernel
theorem dX11_ahead_56 : decode cX11_ahead 56 = .ok (.ireturn, 1) := by decide +kernel
theorem dX11_when_0 : decode cX11_when 0 = .ok (.aload_n 0, 1) := by decide +kernel
theorem dX11_when_1 : decode cX11_when 1 = .ok (.iload_n 1, 1) := by decide +kernel
theorem dX11_when_2 : decode cX11_when 2 = .ok (.iload_n 2, 1) := by decide +kernel
theorem dX11_when_3 : decode cX11_when 3 = .ok (.invokevirtual 193, 3) := by decide +kernel
theorem dX11_when_6 : decode cX11_when 6 = .ok (.ifCond .eq 10, 3) := by decide +kernel
theorem dX11_when_9 : decode cX11_when 9 = .ok (.iload_n 3, 1) := by decide +kernel
theorem dX11_when_10 : decode cX11_when 10 = .ok (.invokestatic 177, 3) := by decide +kernel
theorem dX11_when_13 : decode cX11_when 13 = .ok (.ifCond .ne 6, 3) := by decide +kernel
theorem dX11_when_16 : decode cX11_when 16 = .ok (.ldc 47, 2) := by decide +kernel
theorem dX11_when_18 : decode cX11_when 18 = .ok (.ireturn, 1) := by decide +kernel
theorem dX11_when_19 : decode cX11_when 19 = .ok (.iload_n 3, 1) := by decide +kernel
theorem dX11_when_20 : decode cX11_when 20 = .ok (.ifCond .ne 15, 3) := by decide +kernel
theorem dX11_when_23 : decode cX11_when 23 = .ok (.aload_n 0, 1) := by decide +kernel
theorem dX11_when_24 : decode cX11_when 24 = .ok (.getfield 25, 3) := by decide +kernel
theorem dX11_when_27 : decode cX11_when 27 = .ok (.iload_n 1, 1) := by decide +kernel
theorem dX11_when_28 : decode cX11_when 28 = .ok (.iload_n 2, 1) := by decide +kernel
theorem dX11_when_29 : decode cX11_when 29 = .ok (.invokevirtual 196, 3) := by decide +kernel
theorem dX11_when_32 : decode cX11_when 32 = .ok (.goto 12, 3) := by decide +kernel
theorem dX11_when_35 : decode cX11_when 35 = .ok (.aload_n 0, 1) := by decide +kernel
theorem dX11_when_36 : decode cX11_when 36 = .ok (.getfield 25, 3) := by decide +kernel
theorem dX11_when_39 : decode cX11_when 39 = .ok (.iload_n 1, 1) := by decide +kernel
theorem dX11_when_40 : decode cX11_when 40 = .ok (.iload_n 2, 1) := by decide +kernel
theorem dX11_when_41 : decode cX11_when 41 = .ok (.invokevirtual 199, 3) := by decide +kernel
theorem dX11_when_44 : decode cX11_when 44 = .ok (.ireturn, 1) := by decide +kernel
theorem dX11_who_0 : decode cX11_who 0 = .ok (.aload_n 0, 1) := by decide +kernel
theorem dX11_who_1 : decode cX11_who 1 = .ok (.iload_n 1, 1) := by decide +kernel
theorem dX11_who_2 : decode cX11_who 2 = .ok (.iload_n 2, 1) := by decide +kernel
theorem dX11_who_3 : decode cX11_who 3 = .ok (.invokevirtual 193, 3) := by decide +kernel
theorem dX11_who_6 : decode cX11_who 6 = .ok (.ifCond .eq 10, 3) := by decide +kernel
theorem dX11_who_9 : decode cX11_who 9 = .ok (.iload_n 3, 1) := by decide +kernel
theorem dX11_who_10 : decode cX11_who 10 = .ok (.invokestatic 177, 3) := by decide +kernel
theorem dX11_who_13 : decode cX11_who 13 = .ok (.ifCond .ne 6, 3) := by decide +kernel
theorem dX11_who_16 : decode cX11_who 16 = .ok (.ldc 47, 2) := by decide +kernel
theorem dX11_who_18 : decode cX11_who 18 = .ok (.ireturn, 1) := by decide +kernel
theorem dX11_who_19 : decode cX11_who 19 = .ok (.aload_n 0, 1) := by decide +kernel
theorem dX11_who_20 : decode cX11_who 20 = .ok (.getfield 25, 3) := by decide +kernel
theorem dX11_who_23 : decode cX11_who 23 = .ok (.iload_n 1, 1) := by decide +kernel
theorem dX11_who_24 : decode cX11_who 24 = .ok (.iload_n 2, 1) := by decide +kernel
theorem dX11_who_25 : decode cX11_who 25 = .ok (.iload_n 3, 1) := by decide +kernel
theorem dX11_who_26 : decode cX11_who 26 = .ok (.iconst 1, 1) := by decide +kernel
theorem dX11_who_27 : decode cX11_who 27 = .ok (.if_icmp .ne 7, 3) := by decide +kernel
theorem dX11_who_30 : decode cX11_who 30 = .ok (.iconst 1, 1) := by decide +kernel
theorem dX11_who_31 : decode cX11_who 31 = .ok (.goto 4, 3) := by decide +kernel
theorem dX11_who_34 : decode cX11_who 34 = .ok (.iconst 0, 1) := by decide +kernel
theorem dX11_who_35 : decode cX11_who 35 = .ok (.invokevirtual 202, 3) := by decide +kernel
theorem dX11_who_38 : decode cX11_who 38 = .ok (.ireturn, 1) := by decide +kernel
theorem dX11_oneHand_0 : decode cX11_oneHand 0 = .ok (.aload_n 0, 1) := by decide +kernel
theorem dX11_oneHand_1 : decode cX11_oneHand 1 = .ok (.getfield 25, 3) := by decide +kernel
theorem dX11_oneHand_4 : decode cX11_oneHand 4 = .ok (.invokevirtual 112, 3) := by decide +kernel
theorem dX11_oneHand_7 : decode cX11_oneHand 7 = .ok (.ifCond .ne 6, 3) := by decide +kernel
theorem dX11_oneHand_10 : decode cX11_oneHand 10 = .ok (.ldc 115, 2) := by decide +kernel
theorem dX11_oneHand_12 : decode cX11_oneHand 12 = .ok (.ireturn, 1) := by decide +kernel
theorem dX11_oneHand_13 : decode cX11_oneHand 13 = .ok (.aload_n 0, 1) := by decide +kernel
theorem dX11_oneHand_14 : decode cX11_oneHand 14 = .ok (.getfield 25, 3) := by decide +kernel
theorem dX11_oneHand_17 : decode cX11_oneHand 17 = .ok (.iload_n 1, 1) := by decide +kernel
theorem dX11_oneHand_18 : decode cX11_oneHand 18 = .ok (.invokevirtual 145, 3) := by decide +kernel
theorem dX11_oneHand_21 : decode cX11_oneHand 21 = .ok (.ifCond .ne 6, 3) := by decide +kernel
theorem dX11_oneHand_24 : decode cX11_oneHand 24 = .ok (.ldc 47, 2) := by decide +kernel
theorem dX11_oneHand_26 : decode cX11_oneHand 26 = .ok (.ireturn, 1) := by decide +kernel
theorem dX11_oneHand_27 : decode cX11_oneHand 27 = .ok (.aload_n 0, 1) := by decide +kernel
theorem dX11_oneHand_28 : decode cX11_oneHand 28 = .ok (.getfield 25, 3) := by decide +kernel
theorem dX11_oneHand_31 : decode cX11_oneHand 31 = .ok (.invokevirtual 206, 3) := by decide +kernel
theorem dX11_oneHand_34 : decode cX11_oneHand 34 = .ok (.istore_n 2, 1) := by decide +kernel
theorem dX11_oneHand_35 : decode cX11_oneHand 35 = .ok (.iconst 0, 1) := by decide +kernel
theorem dX11_oneHand_36 : decode cX11_oneHand 36 = .ok (.istore_n 3, 1) := by decide +kernel
theorem dX11_oneHand_37 : decode cX11_oneHand 37 = .ok (.iload_n 3, 1) := by decide +kernel
theorem dX11_oneHand_38 : decode cX11_oneHand 38 = .ok (.aload_n 0, 1) := by decide +kernel
theorem dX11_oneHand_39 : decode cX11_oneHand 39 = .ok (.getfield 25, 3) := by decide +kernel
theorem dX11_oneHand_42 : decode cX11_oneHand 42 = .ok (.invokevirtual 108, 3) := by decide +kernel
theorem dX11_oneHand_45 : decode cX11_oneHand 45 = .ok (.if_icmp .ge 53, 3) := by decide +kernel
theorem dX11_oneHand_48 : decode cX11_oneHand 48 = .ok (.iload_n 1, 1) := by decide +kernel
theorem dX11_oneHand_49 : decode cX11_oneHand 49 = .ok (.iload_n 3, 1) := by decide +kernel
theorem dX11_oneHand_50 : decode cX11_oneHand 50 = .ok (.invokestatic 148, 3) := by decide +kernel
theorem dX11_oneHand_53 : decode cX11_oneHand 53 = .ok (.ifCond .eq 39, 3) := by decide +kernel
theorem dX11_oneHand_56 : decode cX11_oneHand 56 = .ok (.aload_n 0, 1) := by decide +kernel
theorem dX11_oneHand_57 : decode cX11_oneHand 57 = .ok (.getfield 25, 3) := by decide +kernel
theorem dX11_oneHand_60 : decode cX11_oneHand 60 = .ok (.iload_n 3, 1) := by decide +kernel
theorem dX11_oneHand_61 : decode cX11_oneHand 61 = .ok (.aload_n 0, 1) := by decide +kernel
theorem dX11_oneHand_62 : decode cX11_oneHand 62 = .ok (.getfield 25, 3) := by decide +kernel
theorem dX11_oneHand_65 : decode cX11_oneHand 65 = .ok (.getfield 171, 3) := by decide +kernel
theorem dX11_oneHand_68 : decode cX11_oneHand 68 = .ok (.iload_n 3, 1) := by decide +kernel
theorem dX11_oneHand_69 : decode cX11_oneHand 69 = .ok (.iaload, 1) := by decide +kernel
theorem dX11_oneHand_70 : decode cX11_oneHand 70 = .ok (.iconst 0, 1) := by decide +kernel
theorem dX11_oneHand_71 : decode cX11_oneHand 71 = .ok (.invokevirtual 202, 3) := by decide +kernel
theorem dX11_oneHand_74 : decode cX11_oneHand 74 = .ok (.istore 4, 2) := by decide +kernel
theorem dX11_oneHand_76 : decode cX11_oneHand 76 = .ok (.iload_n 2, 1) := by decide +kernel
theorem dX11_oneHand_77 : decode cX11_oneHand 77 = .ok (.iload 4, 2) := by decide +kernel
theorem dX11_oneHand_79 : decode cX11_oneHand 79 = .ok (.ldc 209, 2) := by decide +kernel
theorem dX11_oneHand_81 : decode cX11_oneHand 81 = .ok (.if_icmp .ne 7, 3) := by decide +kernel
theorem dX11_oneHand_84 : decode cX11_oneHand 84 = .ok (.iconst 0, 1) := by decide +kernel
theorem dX11_oneHand_85 : decode cX11_oneHand 85 = .ok (.goto 5, 3) := by decide +kernel
theorem dX11_oneHand_88 : decode cX11_oneHand 88 = .ok (.iload 4, 2) := by decide +kernel
theorem dX11_oneHand_90 : decode cX11_oneHand 90 = .ok (.iand, 1) := by decide +kernel
theorem dX11_oneHand_91 : decode cX11_oneHand 91 = .ok (.istore_n 2, 1) := by decide +kernel
theorem dX11_oneHand_92 : decode cX11_oneHand 92 = .ok (.iinc 3 1, 3) := by decide +kernel
theorem dX11_oneHand_95 : decode cX11_oneHand 95 = .ok (.goto (-58), 3) := by decide +kernel
theorem dX11_oneHand_98 : decode cX11_oneHand 98 = .ok (.iload_n 2, 1) := by decide +kernel
theorem dX11_oneHand_99 : decode cX11_oneHand 99 = .ok (.ireturn, 1) := by decide +kernel
theorem dX11_moved_0 : decode cX11_moved 0 = .ok (.aload_n 0, 1) := by decide +kernel
theorem dX11_moved_1 : decode cX11_moved 1 = .ok (.getfield 25, 3) := by decide +kernel
theorem dX11_moved_4 : decode cX11_moved 4 = .ok (.invokevirtual 112, 3) := by decide +kernel
theorem dX11_moved_7 : decode cX11_moved 7 = .ok (.ifCond .ne 6, 3) := by decide +kernel
theorem dX11_moved_10 : decode cX11_moved 10 = .ok (.ldc 115, 2) := by decide +kernel
theorem dX11_moved_12 : decode cX11_moved 12 = .ok (.ireturn, 1) := by decide +kernel
theorem dX11_moved_13 : decode cX11_moved 13 = .ok (.iconst 0, 1) := by decide +kernel
theorem dX11_moved_14 : decode cX11_moved 14 = .ok (.istore_n 1, 1) := by decide +kernel
theorem dX11_moved_15 : decode cX11_moved 15 = .ok (.iconst 0, 1) := by decide +kernel
theorem dX11_moved_16 : decode cX11_moved 16 = .ok (.istore_n 2, 1) := by decide +kernel
theorem dX11_moved_17 : decode cX11_moved 17 = .ok (.iload_n 2, 1) := by decide +kernel
theorem dX11_moved_18 : decode cX11_moved 18 = .ok (.aload_n 0, 1) := by decide +kernel
theorem dX11_moved_19 : decode cX11_moved 19 = .ok (.getfield 25, 3) := by decide +kernel
theorem dX11_moved_22 : decode cX11_moved 22 = .ok (.invokevirtual 108, 3) := by decide +kernel
theorem dX11_moved_25 : decode cX11_moved 25 = .ok (.if_icmp .ge 28, 3) := by decide +kernel
theorem dX11_moved_28 : decode cX11_moved 28 = .ok (.aload_n 0, 1) := by decide +kernel
theorem dX11_moved_29 : decode cX11_moved 29 = .ok (.getfield 25, 3) := by decide +kernel
theorem dX11_moved_32 : decode cX11_moved 32 = .ok (.getfield 142, 3) := by decide +kernel
theorem dX11_moved_35 : decode cX11_moved 35 = .ok (.iload_n 2, 1) := by decide +kernel
theorem dX11_moved_36 : decode cX11_moved 36 = .ok (.iaload, 1) := by decide +kernel
theorem dX11_moved_37 : decode cX11_moved 37 = .ok (.iload_n 2, 1) := by decide +kernel
theorem dX11_moved_38 : decode cX11_moved 38 = .ok (.if_icmp .eq 9, 3) := by decide +kernel
theorem dX11_moved_41 : decode cX11_moved 41 = .ok (.iload_n 1, 1) := by decide +kernel
theorem dX11_moved_42 : decode cX11_moved 42 = .ok (.iconst 1, 1) := by decide +kernel
theorem dX11_moved_43 : decode cX11_moved 43 = .ok (.iload_n 2, 1) := by decide +kernel
theorem dX11_moved_44 : decode cX11_moved 44 = .ok (.ishl, 1) := by decide +kernel
theorem dX11_moved_45 : decode cX11_moved 45 = .ok (.ior, 1) := by decide +kernel
theorem dX11_moved_46 : decode cX11_moved 46 = .ok (.istore_n 1, 1) := by decide +kernel
theorem dX11_moved_47 : decode cX11_moved 47 = .ok (.iinc 2 1, 3) := by decide +kernel
theorem dX11_moved_50 : decode cX11_moved 50 = .ok (.goto (-33), 3) := by decide +kernel
theorem dX11_moved_53 : decode cX11_moved 53 = .ok (.iload_n 1, 1) := by decide +kernel
theorem dX11_moved_54 : decode cX11_moved 54 = .ok (.ireturn, 1) := by decide +kernel
theorem dX11_like_0 : decode cX11_like 0 = .ok (.aload_n 0, 1) := by decide +kernel
theorem dX11_like_1 : decode cX11_like 1 = .ok (.getfield 25, 3) := by decide +kernel
theorem dX11_like_4 : decode cX11_like 4 = .ok (.iload_n 1, 1) := by decide +kernel
theorem dX11_like_5 : decode cX11_like 5 = .ok (.invokevirtual 125, 3) := by decide +kernel
theorem dX11_like_8 : decode cX11_like 8 = .ok (.ifCond .eq 19, 3) := by decide +kernel
theorem dX11_like_11 : decode cX11_like 11 = .ok (.aload_n 0, 1) := by decide +kernel
theorem dX11_like_12 : decode cX11_like 12 = .ok (.getfield 25, 3) := by decide +kernel
theorem dX11_like_15 : decode cX11_like 15 = .ok (.iload_n 2, 1) := by decide +kernel
theorem dX11_like_16 : decode cX11_like 16 = .ok (.invokevirtual 125, 3) := by decide +kernel
theorem dX11_like_19 : decode cX11_like 19 = .ok (.ifCond .eq 8, 3) := by decide +kernel
theorem dX11_like_22 : decode cX11_like 22 = .ok (.iload_n 1, 1) := by decide +kernel
theorem dX11_like_23 : decode cX11_like 23 = .ok (.iload_n 2, 1) := by decide +kernel
theorem dX11_like_24 : decode cX11_like 24 = .ok (.if_icmp .ne 6, 3) := by decide +kernel
theorem dX11_like_27 : decode cX11_like 27 = .ok (.ldc 47, 2) := by decide +kernel
theorem dX11_like_29 : decode cX11_like 29 = .ok (.ireturn, 1) := by decide +kernel
theorem dX11_like_30 : decode cX11_like 30 = .ok (.aload_n 0, 1) := by decide +kernel
theorem dX11_like_31 : decode cX11_like 31 = .ok (.getfield 25, 3) := by decide +kernel
theorem dX11_like_34 : decode cX11_like 34 = .ok (.getfield 171, 3) := by decide +kernel
theorem dX11_like_37 : decode cX11_like 37 = .ok (.iload_n 1, 1) := by decide +kernel
theorem dX11_like_38 : decode cX11_like 38 = .ok (.iaload, 1) := by decide +kernel
theorem dX11_like_39 : decode cX11_like 39 = .ok (.istore_n 3, 1) := by decide +kernel
theorem dX11_like_40 : decode cX11_like 40 = .ok (.aload_n 0, 1) := by decide +kernel
theorem dX11_like_41 : decode cX11_like 41 = .ok (.getfield 25, 3) := by decide +kernel
theorem dX11_like_44 : decode cX11_like 44 = .ok (.getfield 171, 3) := by decide +kernel
theorem dX11_like_47 : decode cX11_like 47 = .ok (.iload_n 2, 1) := by decide +kernel
theorem dX11_like_48 : decode cX11_like 48 = .ok (.iaload, 1) := by decide +kernel
theorem dX11_like_49 : decode cX11_like 49 = .ok (.istore 4, 2) := by decide +kernel
theorem dX11_like_51 : decode cX11_like 51 = .ok (.iconst 0, 1) := by decide +kernel
theorem dX11_like_52 : decode cX11_like 52 = .ok (.istore 5, 2) := by decide +kernel
theorem dX11_like_54 : decode cX11_like 54 = .ok (.iload 5, 2) := by decide +kernel
theorem dX11_like_56 : decode cX11_like 56 = .ok (.bipush 99, 2) := by decide +kernel
theorem dX11_like_58 : decode cX11_like 58 = .ok (.if_icmp .gt 44, 3) := by decide +kernel
theorem dX11_like_61 : decode cX11_like 61 = .ok (.iload_n 3, 1) := by decide +kernel
theorem dX11_like_62 : decode cX11_like 62 = .ok (.iload 4, 2) := by decide +kernel
theorem dX11_like_64 : decode cX11_like 64 = .ok (.if_icmp .ne 6, 3) := by decide +kernel
theorem dX11_like_67 : decode cX11_like 67 = .ok (.iload 5, 2) := by decide +kernel
theorem dX11_like_69 : decode cX11_like 69 = .ok (.ireturn, 1) := by decide +kernel
theorem dX11_like_70 : decode cX11_like 70 = .ok (.aload_n 0, 1) := by decide +kernel
theorem dX11_like_71 : decode cX11_like 71 = .ok (.getfield 25, 3) := by decide +kernel
theorem dX11_like_74 : decode cX11_like 74 = .ok (.iload_n 1, 1) := by decide +kernel
theorem dX11_like_75 : decode cX11_like 75 = .ok (.iload_n 3, 1) := by decide +kernel
theorem dX11_like_76 : decode cX11_like 76 = .ok (.iload 5, 2) := by decide +kernel
theorem dX11_like_78 : decode cX11_like 78 = .ok (.invokevirtual 210, 3) := by decide +kernel
theorem dX11_like_81 : decode cX11_like 81 = .ok (.istore_n 3, 1) := by decide +kernel
theorem dX11_like_82 : decode cX11_like 82 = .ok (.aload_n 0, 1) := by decide +kernel
theorem dX11_like_83 : decode cX11_like 83 = .ok (.getfield 25, 3) := by decide +kernel
theorem dX11_like_86 : decode cX11_like 86 = .ok (.iload_n 2, 1) := by decide +kernel
theorem dX11_like_87 : decode cX11_like 87 = .ok (.iload 4, 2) := by decide +kernel
theorem dX11_like_89 : decode cX11_like 89 = .ok (.iload 5, 2) := by decide +kernel
theorem dX11_like_91 : decode cX11_like 91 = .ok (.invokevirtual 210, 3) := by decide +kernel
theorem dX11_like_94 : decode cX11_like 94 = .ok (.istore 4, 2) := by decide +kernel
theorem dX11_like_96 : decode cX11_like 96 = .ok (.iinc 5 1, 3) := by decide +kernel
theorem dX11_like_99 : decode cX11_like 99 = .ok (.goto (-45), 3) := by decide +kernel
theorem dX11_like_102 : decode cX11_like 102 = .ok (.ldc 209, 2) := by decide +kernel
theorem dX11_like_104 : decode cX11_like 104 = .ok (.ireturn, 1) := by decide +kernel
theorem dX11_hide_0 : decode cX11_hide 0 = .ok (.aload_n 0, 1) := by decide +kernel
theorem dX11_hide_1 : decode cX11_hide 1 = .ok (.getfield 25, 3) := by decide +kernel
theorem dX11_hide_4 : decode cX11_hide 4 = .ok (.invokevirtual 112, 3) := by decide +kernel
theorem dX11_hide_7 : decode cX11_hide 7 = .ok (.ifCond .ne 6, 3) := by decide +kernel
theorem dX11_hide_10 : decode cX11_hide 10 = .ok (.ldc 115, 2) := by decide +kernel
theorem dX11_hide_12 : decode cX11_hide 12 = .ok (.ireturn, 1) := by decide +kernel
theorem dX11_hide_13 : decode cX11_hide 13 = .ok (.iload_n 1, 1) := by decide +kernel
theorem dX11_hide_14 : decode cX11_hide 14 = .ok (.ifCond .lt 10, 3) := by decide +kernel
theorem dX11_hide_17 : decode cX11_hide 17 = .ok (.iload_n 1, 1) := by decide +kernel
theorem dX11_hide_18 : decode cX11_hide 18 = .ok (.sipush 9999, 3) := by decide +kernel
theorem dX11_hide_21 : decode cX11_hide 21 = .ok (.if_icmp .le 6, 3) := by decide +kernel
theorem dX11_hide_24 : decode cX11_hide 24 = .ok (.ldc 47, 2) := by decide +kernel
theorem dX11_hide_26 : decode cX11_hide 26 = .ok (.ireturn, 1) := by decide +kernel
theorem dX11_hide_27 : decode cX11_hide 27 = .ok (.aload_n 0, 1) := by decide +kernel
theorem dX11_hide_28 : decode cX11_hide 28 = .ok (.getfield 25, 3) := by decide +kernel
theorem dX11_hide_31 : decode cX11_hide 31 = .ok (.invokevirtual 213, 3) := by decide +kernel
theorem dX11_hide_34 : decode cX11_hide 34 = .ok (.istore_n 2, 1) := by decide +kernel
theorem dX11_hide_35 : decode cX11_hide 35 = .ok (.iconst 0, 1) := by decide +kernel
theorem dX11_hide_36 : decode cX11_hide 36 = .ok (.istore_n 3, 1) := by decide +kernel
theorem dX11_hide_37 : decode cX11_hide 37 = .ok (.iload_n 3, 1) := by decide +kernel
theorem dX11_hide_38 : decode cX11_hide 38 = .ok (.aload_n 0, 1) := by decide +kernel
theorem dX11_hide_39 : decode cX11_hide 39 = .ok (.getfield 25, 3) := by decide +kernel
theorem dX11_hide_42 : decode cX11_hide 42 = .ok (.invokevirtual 213, 3) := by decide +kernel
theorem dX11_hide_45 : decode cX11_hide 45 = .ok (.if_icmp .ge 34, 3) := by decide +kernel
theorem dX11_hide_48 : decode cX11_hide 48 = .ok (.iload_n 3, 1) := by decide +kernel
theorem dX11_hide_49 : decode cX11_hide 49 = .ok (.invokestatic 216, 3) := by decide +kernel
theorem dX11_hide_52 : decode cX11_hide 52 = .ok (.iload_n 2, 1) := by decide +kernel
theorem dX11_hide_53 : decode cX11_hide 53 = .ok (.invokestatic 216, 3) := by decide +kernel
theorem dX11_hide_56 : decode cX11_hide 56 = .ok (.if_icmp .ge 17, 3) := by decide +kernel
theorem dX11_hide_59 : decode cX11_hide 59 = .ok (.aload_n 0, 1) := by decide +kernel
theorem dX11_hide_60 : decode cX11_hide 60 = .ok (.getfield 25, 3) := by decide +kernel
theorem dX11_hide_63 : decode cX11_hide 63 = .ok (.iload_n 3, 1) := by decide +kernel
theorem dX11_hide_64 : decode cX11_hide 64 = .ok (.invokevirtual 221, 3) := by decide +kernel
theorem dX11_hide_67 : decode cX11_hide 67 = .ok (.iload_n 1, 1) := by decide +kernel
theorem dX11_hide_68 : decode cX11_hide 68 = .ok (.if_icmp .gt 5, 3) := by decide +kernel
theorem dX11_hide_71 : decode cX11_hide 71 = .ok (.iload_n 3, 1) := by decide +kernel
theorem dX11_hide_72 : decode cX11_hide 72 = .ok (.istore_n 2, 1) := by decide +kernel
theorem dX11_hide_73 : decode cX11_hide 73 = .ok (.iinc 3 1, 3) := by decide +kernel
theorem dX11_hide_76 : decode cX11_hide 76 = .ok (.goto (-39), 3) := by decide +kernel
theorem dX11_hide_79 : decode cX11_hide 79 = .ok (.iload_n 2, 1) := by decide +kernel
theorem dX11_hide_80 : decode cX11_hide 80 = .ok (.ireturn, 1) := by decide +kernel
theorem dX11_learnt_0 : decode cX11_learnt 0 = .ok (.aload_n 0, 1) := by decide +kernel
theorem dX11_learnt_1 : decode cX11_learnt 1 = .ok (.getfield 25, 3) := by decide +kernel
theorem dX11_learnt_4 : decode cX11_learnt 4 = .ok (.iload 4, 2) := by decide +kernel
theorem dX11_learnt_6 : decode cX11_learnt 6 = .ok (.invokevirtual 162, 3) := by decide +kernel
theorem dX11_learnt_9 : decode cX11_learnt 9 = .ok (.astore 5, 2) := by decide +kernel
theorem dX11_learnt_11 : decode cX11_learnt 11 = .ok (.aload_n 0, 1) := by decide +kernel
theorem dX11_learnt_12 : decode cX11_learnt 12 = .ok (.getfield 10, 3) := by decide +kernel
theorem dX11_learnt_15 : decode cX11_learnt 15 = .ok (.iload_n 1, 1) := by decide +kernel
theorem dX11_learnt_16 : decode cX11_learnt 16 = .ok (.invokevirtual 43, 3) := by decide +kernel
theorem dX11_learnt_19 : decode cX11_learnt 19 = .ok (.ifCond .eq 19, 3) := by decide +kernel
theorem dX11_learnt_22 : decode cX11_learnt 22 = .ok (.iload_n 3, 1) := by decide +kernel
theorem dX11_learnt_23 : decode cX11_learnt 23 = .ok (.iconst 1, 1) := by decide +kernel
theorem dX11_learnt_24 : decode cX11_learnt 24 = .ok (.if_icmp .lt 14, 3) := by decide +kernel
theorem dX11_learnt_27 : decode cX11_learnt 27 = .ok (.iload_n 3, 1) := by decide +kernel
theorem dX11_learnt_28 : decode cX11_learnt 28 = .ok (.bipush 20, 2) := by decide +kernel
theorem dX11_learnt_30 : decode cX11_learnt 30 = .ok (.if_icmp .gt 8, 3) := by decide +kernel
theorem dX11_learnt_33 : decode cX11_learnt 33 = .ok (.aload 5, 2) := by decide +kernel
theorem dX11_learnt_35 : decode cX11_learnt 35 = .ok (.ifnonnull 6, 3) := by decide +kernel
theorem dX11_learnt_38 : decode cX11_learnt 38 = .ok (.ldc 47, 2) := by decide +kernel
theorem dX11_learnt_40 : decode cX11_learnt 40 = .ok (.ireturn, 1) := by decide +kernel
theorem dX11_learnt_41 : decode cX11_learnt 41 = .ok (.aload_n 0, 1) := by decide +kernel
theorem dX11_learnt_42 : decode cX11_learnt 42 = .ok (.getfield 25, 3) := by decide +kernel
theorem dX11_learnt_45 : decode cX11_learnt 45 = .ok (.iload 4, 2) := by decide +kernel
theorem dX11_learnt_47 : decode cX11_learnt 47 = .ok (.invokevirtual 128, 3) := by decide +kernel
theorem dX11_learnt_50 : decode cX11_learnt 50 = .ok (.ifCond .eq 6, 3) := by decide +kernel
theorem dX11_learnt_53 : decode cX11_learnt 53 = .ok (.ldc 115, 2) := by decide +kernel
theorem dX11_learnt_55 : decode cX11_learnt 55 = .ok (.ireturn, 1) := by decide +kernel
theorem dX11_learnt_56 : decode cX11_learnt 56 = .ok (.aload_n 0, 1) := by decide +kernel
theorem dX11_learnt_57 : decode cX11_learnt 57 = .ok (.aload_n 0, 1) := by decide +kernel
theorem dX11_learnt_58 : decode cX11_learnt 58 = .ok (.getfield 10, 3) := by decide +kernel
theorem dX11_learnt_61 : decode cX11_learnt 61 = .ok (.iload_n 1, 1) := by decide +kernel
theorem dX11_learnt_62 : decode cX11_learnt 62 = .ok (.iload_n 2, 1) := by decide +kernel
theorem dX11_learnt_63 : decode cX11_learnt 63 = .ok (.iload_n 3, 1) := by decide +kernel
theorem dX11_learnt_64 : decode cX11_learnt 64 = .ok (.invokevirtual 57, 3) := by decide +kernel
theorem dX11_learnt_67 : decode cX11_learnt 67 = .ok (.putfield 48, 3) := by decide +kernel
theorem dX11_learnt_70 : decode cX11_learnt 70 = .ok (.aload_n 0, 1) := by decide +kernel
theorem dX11_learnt_71 : decode cX11_learnt 71 = .ok (.getfield 48, 3) := by decide +kernel
theorem dX11_learnt_74 : decode cX11_learnt 74 = .ok (.ifCond .eq 11, 3) := by decide +kernel
theorem dX11_learnt_77 : decode cX11_learnt 77 = .ok (.ldc 52, 2) := by decide +kernel
theorem dX11_learnt_79 : decode cX11_learnt 79 = .ok (.aload_n 0, 1) := by decide +kernel
theorem dX11_learnt_80 : decode cX11_learnt 80 = .ok (.getfield 48, 3) := by decide +kernel
theorem dX11_learnt_83 : decode cX11_learnt 83 = .ok (.isub, 1) := by decide +kernel
theorem dX11_learnt_84 : decode cX11_learnt 84 = .ok (.ireturn, 1) := by decide +kernel
theorem dX11_learnt_85 : decode cX11_learnt 85 = .ok (.iconst 1, 1) := by decide +kernel
theorem dX11_learnt_86 : decode cX11_learnt 86 = .ok (.istore 6, 2) := by decide +kernel
theorem dX11_learnt_88 : decode cX11_learnt 88 = .ok (.iload 6, 2) := by decide +kernel
theorem dX11_learnt_90 : decode cX11_learnt 90 = .ok (.iconst 5, 1) := by decide +kernel
theorem dX11_learnt_91 : decode cX11_learnt 91 = .ok (.if_icmp .gt 28, 3) := by decide +kernel
theorem dX11_learnt_94 : decode cX11_learnt 94 = .ok (.aload_n 0, 1) := by decide +kernel
theorem dX11_learnt_95 : decode cX11_learnt 95 = .ok (.iload_n 1, 1) := by decide +kernel
theorem dX11_learnt_96 : decode cX11_learnt 96 = .ok (.iload_n 2, 1) := by decide +kernel
theorem dX11_learnt_97 : decode cX11_learnt 97 = .ok (.iload_n 3, 1) := by decide +kernel
theorem dX11_learnt_98 : decode cX11_learnt 98 = .ok (.iload 4, 2) := by decide +kernel
theorem dX11_learnt_100 : decode cX11_learnt 100 = .ok (.aload 5, 2) := by decide +kernel
theorem dX11_learnt_102 : decode cX11_learnt 102 = .ok (.iload 6, 2) := by decide +kernel
theorem dX11_learnt_104 : decode cX11_learnt 104 = .ok (.invokevirtual 224, 3) := by decide +kernel
theorem dX11_learnt_107 : decode cX11_learnt 107 = .ok (.ifCond .eq 6, 3) := by decide +kernel
theorem dX11_learnt_110 : decode cX11_learnt 110 = .ok (.iload 6, 2) := by decide +kernel
theorem dX11_learnt_112 : decode cX11_learnt 112 = .ok (.ireturn, 1) := by decide +kernel
theorem dX11_learnt_113 : decode cX11_learnt 113 = .ok (.iinc 6 1, 3) := by decide +kernel
theorem dX11_learnt_116 : decode cX11_learnt 116 = .ok (.goto (-28), 3) := by decide +kernel
theorem dX11_learnt_119 : decode cX11_learnt 119 = .ok (.ldc 209, 2) := by decide +kernel
theorem dX11_learnt_121 : decode cX11_learnt 121 = .ok (.ireturn, 1) := by decide +kernel
theorem dX11_image_0 : decode cX11_image 0 = .ok (.iload_n 1, 1) := by decide +kernel
theorem dX11_image_1 : decode cX11_image 1 = .ok (.ifCond .lt 12, 3) := by decide +kernel
theorem dX11_image_4 : decode cX11_image 4 = .ok (.iload_n 1, 1) := by decide +kernel
theorem dX11_image_5 : decode cX11_image 5 = .ok (.aload_n 0, 1) := by decide +kernel
theorem dX11_image_6 : decode cX11_image 6 = .ok (.getfield 33, 3) := by decide +kernel
theorem dX11_image_9 : decode cX11_image 9 = .ok (.arraylength, 1) := by decide +kernel
theorem dX11_image_10 : decode cX11_image 10 = .ok (.if_icmp .lt 6, 3) := by decide +kernel
theorem dX11_image_13 : decode cX11_image 13 = .ok (.ldc 47, 2) := by decide +kernel
theorem dX11_image_15 : decode cX11_image 15 = .ok (.ireturn, 1) := by decide +kernel
theorem dX11_image_16 : decode cX11_image 16 = .ok (.aload_n 0, 1) := by decide +kernel
theorem dX11_image_17 : decode cX11_image 17 = .ok (.getfield 25, 3) := by decide +kernel
theorem dX11_image_20 : decode cX11_image 20 = .ok (.invokevirtual 112, 3) := by decide +kernel
theorem dX11_image_23 : decode cX11_image 23 = .ok (.ifCond .ne 6, 3) := by decide +kernel
theorem dX11_image_26 : decode cX11_image 26 = .ok (.ldc 115, 2) := by decide +kernel
theorem dX11_image_28 : decode cX11_image 28 = .ok (.ireturn, 1) := by decide +kernel
theorem dX11_image_29 : decode cX11_image 29 = .ok (.aload_n 0, 1) := by decide +kernel
theorem dX11_image_30 : decode cX11_image 30 = .ok (.getfield 33, 3) := by decide +kernel
theorem dX11_image_33 : decode cX11_image 33 = .ok (.iload_n 1, 1) := by decide +kernel
theorem dX11_image_34 : decode cX11_image 34 = .ok (.aaload, 1) := by decide +kernel
theorem dX11_image_35 : decode cX11_image 35 = .ok (.aload_n 0, 1) := by decide +kernel
theorem dX11_image_36 : decode cX11_image 36 = .ok (.getfield 25, 3) := by decide +kernel
theorem dX11_image_39 : decode cX11_image 39 = .ok (.invokevirtual 158, 3) := by decide +kernel
theorem dX11_image_42 : decode cX11_image 42 = .ok (.iconst 1, 1) := by decide +kernel
theorem dX11_image_43 : decode cX11_image 43 = .ok (.ireturn, 1) := by decide +kernel
theorem dX11_restore_0 : decode cX11_restore 0 = .ok (.iload_n 1, 1) := by decide +kernel
theorem dX11_restore_1 : decode cX11_restore 1 = .ok (.ifCond .lt 12, 3) := by decide +kernel
theorem dX11_restore_4 : decode cX11_restore 4 = .ok (.iload_n 1, 1) := by decide +kernel
theorem dX11_restore_5 : decode cX11_restore 5 = .ok (.aload_n 0, 1) := by decide +kernel
theorem dX11_restore_6 : decode cX11_restore 6 = .ok (.getfield 33, 3) := by decide +kernel
theorem dX11_restore_9 : decode cX11_restore 9 = .ok (.arraylength, 1) := by decide +kernel
theorem dX11_restore_10 : decode cX11_restore 10 = .ok (.if_icmp .lt 6, 3) := by decide +kernel
theorem dX11_restore_13 : decode cX11_restore 13 = .ok (.ldc 47, 2) := by decide +kernel
theorem dX11_restore_15 : decode cX11_restore 15 = .ok (.ireturn, 1) := by decide +kernel
theorem dX11_restore_16 : decode cX11_restore 16 = .ok (.aload_n 0, 1) := by decide +kernel
theorem dX11_restore_17 : decode cX11_restore 17 = .ok (.getfield 33, 3) := by decide +kernel
theorem dX11_restore_20 : decode cX11_restore 20 = .ok (.iload_n 1, 1) := by decide +kernel
theorem dX11_restore_21 : decode cX11_restore 21 = .ok (.aaload, 1) := by decide +kernel
theorem dX11_restore_22 : decode cX11_restore 22 = .ok (.invokevirtual 112, 3) := by decide +kernel
theorem dX11_restore_25 : decode cX11_restore 25 = .ok (.ifCond .ne 6, 3) := by decide +kernel
theorem dX11_restore_28 : decode cX11_restore 28 = .ok (.ldc 115, 2) := by decide +kernel
theorem dX11_restore_30 : decode cX11_restore 30 = .ok (.ireturn, 1) := by decide +kernel
theorem dX11_restore_31 : decode cX11_restore 31 = .ok (.aload_n 0, 1) := by decide +kernel
theorem dX11_restore_32 : decode cX11_restore 32 = .ok (.getfield 25, 3) := by decide +kernel
theorem dX11_restore_35 : decode cX11_restore 35 = .ok (.aload_n 0, 1) := by decide +kernel
theorem dX11_restore_36 : decode cX11_restore 36 = .ok (.getfield 33, 3) := by decide +kernel
theorem dX11_restore_39 : decode cX11_restore 39 = .ok (.iload_n 1, 1) := by decide +kernel
theorem dX11_restore_40 : decode cX11_restore 40 = .ok (.aaload, 1) := by decide +kernel
theorem dX11_restore_41 : decode cX11_restore 41 = .ok (.invokevirtual 158, 3) := by decide +kernel
theorem dX11_restore_44 : decode cX11_restore 44 = .ok (.aload_n 0, 1) := by decide +kernel
theorem dX11_restore_45 : decode cX11_restore 45 = .ok (.invokevirtual 105, 3) := by decide +kernel
theorem dX11_restore_48 : decode cX11_restore 48 = .ok (.iconst 1, 1) := by decide +kernel
theorem dX11_restore_49 : decode cX11_restore 49 = .ok (.ireturn, 1) := by decide +kernel
theorem dX11_kind_0 : decode cX11_kind 0 = .ok (.aload_n 0, 1) := by decide +kernel
theorem dX11_kind_1 : decode cX11_kind 1 = .ok (.getfield 25, 3) := by decide +kernel
theorem dX11_kind_4 : decode cX11_kind 4 = .ok (.iload_n 1, 1) := by decide +kernel
theorem dX11_kind_5 : decode cX11_kind 5 = .ok (.invokevirtual 162, 3) := by decide +kernel
theorem dX11_kind_8 : decode cX11_kind 8 = .ok (.astore_n 2, 1) := by decide +kernel
theorem dX11_kind_9 : decode cX11_kind 9 = .ok (.aload_n 2, 1) := by decide +kernel
theorem dX11_kind_10 : decode cX11_kind 10 = .ok (.ifnonnull 8, 3) := by decide +kernel
theorem dX11_kind_13 : decode cX11_kind 13 = .ok (.ldc 47, 2) := by decide +kernel
theorem dX11_kind_15 : decode cX11_kind 15 = .ok (.goto 7, 3) := by decide +kernel
theorem dX11_kind_18 : decode cX11_kind 18 = .ok (.aload_n 2, 1) := by decide +kernel
theorem dX11_kind_19 : decode cX11_kind 19 = .ok (.invokevirtual 228, 3) := by decide +kernel
theorem dX11_kind_22 : decode cX11_kind 22 = .ok (.ireturn, 1) := by decide +kernel
theorem dX11_as_0 : decode cX11_as 0 = .ok (.aload_n 0, 1) := by decide +kernel
theorem dX11_as_1 : decode cX11_as 1 = .ok (.getfield 25, 3) := by decide +kernel
theorem dX11_as_4 : decode cX11_as 4 = .ok (.iload_n 1, 1) := by decide +kernel
theorem dX11_as_5 : decode cX11_as 5 = .ok (.invokevirtual 162, 3) := by decide +kernel
theorem dX11_as_8 : decode cX11_as 8 = .ok (.astore_n 3, 1) := by decide +kernel
theorem dX11_as_9 : decode cX11_as 9 = .ok (.aload_n 3, 1) := by decide +kernel
theorem dX11_as_10 : decode cX11_as 10 = .ok (.ifnull 13, 3) := by decide +kernel
theorem dX11_as_13 : decode cX11_as 13 = .ok (.iload_n 2, 1) := by decide +kernel
theorem dX11_as_14 : decode cX11_as 14 = .ok (.ifCond .lt 9, 3) := by decide +kernel
theorem dX11_as_17 : decode cX11_as 17 = .ok (.iload_n 2, 1) := by decide +kernel
theorem dX11_as_18 : decode cX11_as 18 = .ok (.bipush 6, 2) := by decide +kernel
theorem dX11_as_20 : decode cX11_as 20 = .ok (.if_icmp .lt 6, 3) := by decide +kernel
theorem dX11_as_23 : decode cX11_as 23 = .ok (.ldc 47, 2) := by decide +kernel
theorem dX11_as_25 : decode cX11_as 25 = .ok (.ireturn, 1) := by decide +kernel
theorem dX11_as_26 : decode cX11_as 26 = .ok (.aload_n 0, 1) := by decide +kernel
theorem dX11_as_27 : decode cX11_as 27 = .ok (.aload_n 3, 1) := by decide +kernel
theorem dX11_as_28 : decode cX11_as 28 = .ok (.iload_n 2, 1) := by decide +kernel
theorem dX11_as_29 : decode cX11_as 29 = .ok (.invokestatic 231, 3) := by decide +kernel
theorem dX11_as_32 : decode cX11_as 32 = .ok (.ifCond .eq 7, 3) := by decide +kernel
theorem dX11_as_35 : decode cX11_as 35 = .ok (.iconst 0, 1) := by decide +kernel
theorem dX11_as_36 : decode cX11_as 36 = .ok (.goto 4, 3) := by decide +kernel
theorem dX11_as_39 : decode cX11_as 39 = .ok (.iconst 3, 1) := by decide +kernel
theorem dX11_as_40 : decode cX11_as 40 = .ok (.putfield 48, 3) := by decide +kernel
theorem dX11_as_43 : decode cX11_as 43 = .ok (.aload_n 0, 1) := by decide +kernel
theorem dX11_as_44 : decode cX11_as 44 = .ok (.getfield 48, 3) := by decide +kernel
theorem dX11_as_47 : decode cX11_as 47 = .ok (.ifCond .eq 13, 3) := by decide +kernel
theorem dX11_as_50 : decode cX11_as 50 = .ok (.ldc 52, 2) := by decide +kernel
theorem dX11_as_52 : decode cX11_as 52 = .ok (.aload_n 0, 1) := by decide +kernel
theorem dX11_as_53 : decode cX11_as 53 = .ok (.getfield 48, 3) := by decide +kernel
theorem dX11_as_56 : decode cX11_as 56 = .ok (.isub, 1) := by decide +kernel
theorem dX11_as_57 : decode cX11_as 57 = .ok (.goto 7, 3) := by decide +kernel
theorem dX11_as_60 : decode cX11_as 60 = .ok (.aload_n 3, 1) := by decide +kernel
theorem dX11_as_61 : decode cX11_as 61 = .ok (.getfield 235, 3) := by decide +kernel
theorem dX11_as_64 : decode cX11_as 64 = .ok (.ireturn, 1) := by decide +kernel
theorem dX11_ask_0 : decode cX11_ask 0 = .ok (.aload_n 0, 1) := by decide +kernel
theorem dX11_ask_1 : decode cX11_ask 1 = .ok (.getfield 25, 3) := by decide +kernel
theorem dX11_ask_4 : decode cX11_ask 4 = .ok (.iload_n 1, 1) := by decide +kernel
theorem dX11_ask_5 : decode cX11_ask 5 = .ok (.invokevirtual 162, 3) := by decide +kernel
theorem dX11_ask_8 : decode cX11_ask 8 = .ok (.astore_n 3, 1) := by decide +kernel
theorem dX11_ask_9 : decode cX11_ask 9 = .ok (.aload_n 3, 1) := by decide +kernel
theorem dX11_ask_10 : decode cX11_ask 10 = .ok (.ifnull 10, 3) := by decide +kernel
theorem dX11_ask_13 : decode cX11_ask 13 = .ok (.iload_n 2, 1) := by decide +kernel
theorem dX11_ask_14 : decode cX11_ask 14 = .ok (.invokestatic 177, 3) := by decide +kernel
theorem dX11_ask_17 : decode cX11_ask 17 = .ok (.ifCond .ne 6, 3) := by decide +kernel
theorem dX11_ask_20 : decode cX11_ask 20 = .ok (.ldc 47, 2) := by decide +kernel
theorem dX11_ask_22 : decode cX11_ask 22 = .ok (.ireturn, 1) := by decide +kernel
theorem dX11_ask_23 : decode cX11_ask 23 = .ok (.aload_n 0, 1) := by decide +kernel
theorem dX11_ask_24 : decode cX11_ask 24 = .ok (.getfield 39, 3) := by decide +kernel
theorem dX11_ask_27 : decode cX11_ask 27 = .ok (.invokevirtual 238, 3) := by decide +kernel
theorem dX11_ask_30 : decode cX11_ask 30 = .ok (.aload_n 0, 1) := by decide +kernel
theorem dX11_ask_31 : decode cX11_ask 31 = .ok (.getfield 25, 3) := by decide +kernel
theorem dX11_ask_34 : decode cX11_ask 34 = .ok (.getfield 171, 3) := by decide +kernel
theorem dX11_ask_37 : decode cX11_ask 37 = .ok (.iload_n 1, 1) := by decide +kernel
theorem dX11_ask_38 : decode cX11_ask 38 = .ok (.iaload, 1) := by decide +kernel
theorem dX11_ask_39 : decode cX11_ask 39 = .ok (.istore 4, 2) := by decide +kernel
theorem dX11_ask_41 : decode cX11_ask 41 = .ok (.iload_n 2, 1) := by decide +kernel
theorem dX11_ask_42 : decode cX11_ask 42 = .ok (.ifCond .ne 16, 3) := by decide +kernel
theorem dX11_ask_45 : decode cX11_ask 45 = .ok (.aload_n 3, 1) := by decide +kernel
theorem dX11_ask_46 : decode cX11_ask 46 = .ok (.aload_n 0, 1) := by decide +kernel
theorem dX11_ask_47 : decode cX11_ask 47 = .ok (.getfield 39, 3) := by decide +kernel
theorem dX11_ask_50 : decode cX11_ask 50 = .ok (.iload 4, 2) := by decide +kernel
theorem dX11_ask_52 : decode cX11_ask 52 = .ok (.invokevirtual 241, 3) := by decide +kernel
theorem dX11_ask_55 : decode cX11_ask 55 = .ok (.goto 13, 3) := by decide +kernel
theorem dX11_ask_58 : decode cX11_ask 58 = .ok (.aload_n 3, 1) := by decide +kernel
theorem dX11_ask_59 : decode cX11_ask 59 = .ok (.aload_n 0, 1) := by decide +kernel
theorem dX11_ask_60 : decode cX11_ask 60 = .ok (.getfield 39, 3) := by decide +kernel
theorem dX11_ask_63 : decode cX11_ask 63 = .ok (.iload 4, 2) := by decide +kernel
theorem dX11_ask_65 : decode cX11_ask 65 = .ok (.invokevirtual 245, 3) := by decide +kernel
theorem dX11_ask_68 : decode cX11_ask 68 = .ok (.ireturn, 1) := by decide +kernel
theorem dX11_trace_0 : decode cX11_trace 0 = .ok (.aload_n 0, 1) := by decide +kernel
theorem dX11_trace_1 : decode cX11_trace 1 = .ok (.getfield 39, 3) := by decide +kernel
theorem dX11_trace_4 : decode cX11_trace 4 = .ok (.iload_n 1, 1) := by decide +kernel
theorem dX11_trace_5 : decode cX11_trace 5 = .ok (.invokevirtual 248, 3) := by decide +kernel
theorem dX11_trace_8 : decode cX11_trace 8 = .ok (.ireturn, 1) := by decide +kernel
theorem dX11_count_0 : decode cX11_count 0 = .ok (.iload_n 1, 1) := by decide +kernel
theorem dX11_count_1 : decode cX11_count 1 = .ok (.tableswitch 93 0 6 #[43, 51, 59, 67, 75, 80, 88], 43) := by decide +kernel
theorem dX11_count_44 : decode cX11_count 44 = .ok (.aload_n 0, 1) := by decide +kernel
theorem dX11_count_45 : decode cX11_count 45 = .ok (.getfield 10, 3) := by decide +kernel
theorem dX11_count_48 : decode cX11_count 48 = .ok (.invokevirtual 251, 3) := by decide +kernel
theorem dX11_count_51 : decode cX11_count 51 = .ok (.ireturn, 1) := by decide +kernel
theorem dX11_count_52 : decode cX11_count 52 = .ok (.aload_n 0, 1) := by decide +kernel
theorem dX11_count_53 : decode cX11_count 53 = .ok (.getfield 25, 3) := by decide +kernel
theorem dX11_count_56 : decode cX11_count 56 = .ok (.invokevirtual 108, 3) := by decide +kernel
theorem dX11_count_59 : decode cX11_count 59 = .ok (.ireturn, 1) := by decide +kernel
theorem dX11_count_60 : decode cX11_count 60 = .ok (.aload_n 0, 1) := by decide +kernel
theorem dX11_count_61 : decode cX11_count 61 = .ok (.getfield 25, 3) := by decide +kernel
theorem dX11_count_64 : decode cX11_count 64 = .ok (.invokevirtual 254, 3) := by decide +kernel
theorem dX11_count_67 : decode cX11_count 67 = .ok (.ireturn, 1) := by decide +kernel
theorem dX11_count_68 : decode cX11_count 68 = .ok (.aload_n 0, 1) := by decide +kernel
theorem dX11_count_69 : decode cX11_count 69 = .ok (.getfield 25, 3) := by decide +kernel
theorem dX11_count_72 : decode cX11_count 72 = .ok (.getfield 116, 3) := by decide +kernel
theorem dX11_count_75 : decode cX11_count 75 = .ok (.ireturn, 1) := by decide +kernel
theorem dX11_count_76 : decode cX11_count 76 = .ok (.aload_n 0, 1) := by decide +kernel
theorem dX11_count_77 : decode cX11_count 77 = .ok (.getfield 152, 3) := by decide +kernel
theorem dX11_count_80 : decode cX11_count 80 = .ok (.ireturn, 1) := by decide +kernel
theorem dX11_count_81 : decode cX11_count 81 = .ok (.aload_n 0, 1) := by decide +kernel
theorem dX11_count_82 : decode cX11_count 82 = .ok (.getfield 25, 3) := by decide +kernel
theorem dX11_count_85 : decode cX11_count 85 = .ok (.invokevirtual 257, 3) := by decide +kernel
theorem dX11_count_88 : decode cX11_count 88 = .ok (.ireturn, 1) := by decide +kernel
theorem dX11_count_89 : decode cX11_count 89 = .ok (.aload_n 0, 1) := by decide +kernel
theorem dX11_count_90 : decode cX11_count 90 = .ok (.getfield 79, 3) := by decide +kernel
theorem dX11_count_93 : decode cX11_count 93 = .ok (.ireturn, 1) := by decide +kernel
theorem dX11_count_94 : decode cX11_count 94 = .ok (.ldc 47, 2) := by decide +kernel
theorem dX11_count_96 : decode cX11_count 96 = .ok (.ireturn, 1) := by decide +kernel
theorem dX11_status_0 : decode cX11_status 0 = .ok (.aload_n 0, 1) := by decide +kernel
theorem dX11_status_1 : decode cX11_status 1 = .ok (.getfield 48, 3) := by decide +kernel
theorem dX11_status_4 : decode cX11_status 4 = .ok (.ireturn, 1) := by decide +kernel
theorem dX11_keepForUndo_0 : decode cX11_keepForUndo 0 = .ok (.aload_n 0, 1) := by decide +kernel
theorem dX11_keepForUndo_1 : decode cX11_keepForUndo 1 = .ok (.getfield 29, 3) := by decide +kernel
theorem dX11_keepForUndo_4 : decode cX11_keepForUndo 4 = .ok (.aload_n 0, 1) := by decide +kernel
theorem dX11_keepForUndo_5 : decode cX11_keepForUndo 5 = .ok (.getfield 155, 3) := by decide +kernel
theorem dX11_keepForUndo_8 : decode cX11_keepForUndo 8 = .ok (.aload_n 0, 1) := by decide +kernel
theorem dX11_keepForUndo_9 : decode cX11_keepForUndo 9 = .ok (.getfield 152, 3) := by decide +kernel
theorem dX11_keepForUndo_12 : decode cX11_keepForUndo 12 = .ok (.iadd, 1) := by decide +kernel
theorem dX11_keepForUndo_13 : decode cX11_keepForUndo 13 = .ok (.bipush 24, 2) := by decide +kernel
theorem dX11_keepForUndo_15 : decode cX11_keepForUndo 15 = .ok (.irem, 1) := by decide +kernel
theorem dX11_keepForUndo_16 : decode cX11_keepForUndo 16 = .ok (.aaload, 1) := by decide +kernel
theorem dX11_keepForUndo_17 : decode cX11_keepForUndo 17 = .ok (.aload_n 0, 1) := by decide +kernel
theorem dX11_keepForUndo_18 : decode cX11_keepForUndo 18 = .ok (.getfield 25, 3) := by decide +kernel
theorem dX11_keepForUndo_21 : decode cX11_keepForUndo 21 = .ok (.invokevirtual 158, 3) := by decide +kernel
theorem dX11_keepForUndo_24 : decode cX11_keepForUndo 24 = .ok (.aload_n 0, 1) := by decide +kernel
theorem dX11_keepForUndo_25 : decode cX11_keepForUndo 25 = .ok (.getfield 152, 3) := by decide +kernel
theorem dX11_keepForUndo_28 : decode cX11_keepForUndo 28 = .ok (.bipush 24, 2) := by decide +kernel
theorem dX11_keepForUndo_30 : decode cX11_keepForUndo 30 = .ok (.if_icmp .ge 16, 3) := by decide +kernel
theorem dX11_keepForUndo_33 : decode cX11_keepForUndo 33 = .ok (.aload_n 0, 1) := by decide +kernel
theorem dX11_keepForUndo_34 : decode cX11_keepForUndo 34 = .ok (.dup, 1) := by decide +kernel
theorem dX11_keepForUndo_35 : decode cX11_keepForUndo 35 = .ok (.getfield 152, 3) := by decide +kernel
theorem dX11_keepForUndo_38 : decode cX11_keepForUndo 38 = .ok (.iconst 1, 1) := by decide +kernel
theorem dX11_keepForUndo_39 : decode cX11_keepForUndo 39 = .ok (.iadd, 1) := by decide +kernel
theorem dX11_keepForUndo_40 : decode cX11_keepForUndo 40 = .ok (.putfield 152, 3) := by decide +kernel
theorem dX11_keepForUndo_43 : decode cX11_keepForUndo 43 = .ok (.goto 16, 3) := by decide +kernel
theorem dX11_keepForUndo_46 : decode cX11_keepForUndo 46 = .ok (.aload_n 0, 1) := by decide +kernel
theorem dX11_keepForUndo_47 : decode cX11_keepForUndo 47 = .ok (.aload_n 0, 1) := by decide +kernel
theorem dX11_keepForUndo_48 : decode cX11_keepForUndo 48 = .ok (.getfield 155, 3) := by decide +kernel
theorem dX11_keepForUndo_51 : decode cX11_keepForUndo 51 = .ok (.iconst 1, 1) := by decide +kernel
theorem dX11_keepForUndo_52 : decode cX11_keepForUndo 52 = .ok (.iadd, 1) := by decide +kernel
theorem dX11_keepForUndo_53 : decode cX11_keepForUndo 53 = .ok (.bipush 24, 2) := by decide +kernel
theorem dX11_keepForUndo_55 : decode cX11_keepForUndo 55 = .ok (.irem, 1) := by decide +kernel
theorem dX11_keepForUndo_56 : decode cX11_keepForUndo 56 = .ok (.putfield 155, 3) := by decide +kernel
theorem dX11_keepForUndo_59 : decode cX11_keepForUndo 59 = .ok (.return_, 1) := by decide +kernel
theorem dX11_forgetActs_0 : decode cX11_forgetActs 0 = .ok (.aload_n 0, 1) := by decide +kernel
theorem dX11_forgetActs_1 : decode cX11_forgetActs 1 = .ok (.iconst 0, 1) := by decide +kernel
theorem dX11_forgetActs_2 : decode cX11_forgetActs 2 = .ok (.putfield 152, 3) := by decide +kernel
theorem dX11_forgetActs_5 : decode cX11_forgetActs 5 = .ok (.return_, 1) := by decide +kernel
theorem dX11_canLie_0 : decode cX11_canLie 0 = .ok (.aload_n 0, 1) := by decide +kernel
theorem dX11_canLie_1 : decode cX11_canLie 1 = .ok (.getfield 25, 3) := by decide +kernel
theorem dX11_canLie_4 : decode cX11_canLie 4 = .ok (.iload_n 1, 1) := by decide +kernel
theorem dX11_canLie_5 : decode cX11_canLie 5 = .ok (.invokevirtual 125, 3) := by decide +kernel
theorem dX11_canLie_8 : decode cX11_canLie 8 = .ok (.ifCond .eq 18, 3) := by decide +kernel
theorem dX11_canLie_11 : decode cX11_canLie 11 = .ok (.iload_n 2, 1) := by decide +kernel
theorem dX11_canLie_12 : decode cX11_canLie 12 = .ok (.ifCond .lt 14, 3) := by decide +kernel
theorem dX11_canLie_15 : decode cX11_canLie 15 = .ok (.iload_n 2, 1) := by decide +kernel
theorem dX11_canLie_16 : decode cX11_canLie 16 = .ok (.sipush 9999, 3) := by decide +kernel
theorem dX11_canLie_19 : decode cX11_canLie 19 = .ok (.if_icmp .gt 7, 3) := by decide +kernel
theorem dX11_canLie_22 : decode cX11_canLie 22 = .ok (.iconst 1, 1) := by decide +kernel
theorem dX11_canLie_23 : decode cX11_canLie 23 = .ok (.goto 4, 3) := by decide +kernel
theorem dX11_canLie_26 : decode cX11_canLie 26 = .ok (.iconst 0, 1) := by decide +kernel
theorem dX11_canLie_27 : decode cX11_canLie 27 = .ok (.ireturn, 1) := by decide +kernel
theorem dX11_wouldTell_0 : decode cX11_wouldTell 0 = .ok (.aload_n 0, 1) := by decide +kernel
theorem dX11_wouldTell_1 : decode cX11_wouldTell 1 = .ok (.getfield 25, 3) := by decide +kernel
theorem dX11_wouldTell_4 : decode cX11_wouldTell 4 = .ok (.getfield 171, 3) := by decide +kernel
theorem dX11_wouldTell_7 : decode cX11_wouldTell 7 = .ok (.iload 4, 2) := by decide +kernel
theorem dX11_wouldTell_9 : decode cX11_wouldTell 9 = .ok (.iaload, 1) := by decide +kernel
theorem dX11_wouldTell_10 : decode cX11_wouldTell 10 = .ok (.istore 7, 2) := by decide +kernel
theorem dX11_wouldTell_12 : decode cX11_wouldTell 12 = .ok (.iconst 0, 1) := by decide +kernel
theorem dX11_wouldTell_13 : decode cX11_wouldTell 13 = .ok (.istore 8, 2) := by decide +kernel
theorem dX11_wouldTell_15 : decode cX11_wouldTell 15 = .ok (.iload 8, 2) := by decide +kernel
theorem dX11_wouldTell_17 : decode cX11_wouldTell 17 = .ok (.iload_n 3, 1) := by decide +kernel
theorem dX11_wouldTell_18 : decode cX11_wouldTell 18 = .ok (.if_icmp .ge 53, 3) := by decide +kernel
theorem dX11_wouldTell_21 : decode cX11_wouldTell 21 = .ok (.iload 7, 2) := by decide +kernel
theorem dX11_wouldTell_23 : decode cX11_wouldTell 23 = .ok (.aload 5, 2) := by decide +kernel
theorem dX11_wouldTell_25 : decode cX11_wouldTell 25 = .ok (.iload 6, 2) := by decide +kernel
theorem dX11_wouldTell_27 : decode cX11_wouldTell 27 = .ok (.aload_n 0, 1) := by decide +kernel
theorem dX11_wouldTell_28 : decode cX11_wouldTell 28 = .ok (.getfield 25, 3) := by decide +kernel
theorem dX11_wouldTell_31 : decode cX11_wouldTell 31 = .ok (.getfield 116, 3) := by decide +kernel
theorem dX11_wouldTell_34 : decode cX11_wouldTell 34 = .ok (.iload 8, 2) := by decide +kernel
theorem dX11_wouldTell_36 : decode cX11_wouldTell 36 = .ok (.iadd, 1) := by decide +kernel
theorem dX11_wouldTell_37 : decode cX11_wouldTell 37 = .ok (.invokevirtual 180, 3) := by decide +kernel
theorem dX11_wouldTell_40 : decode cX11_wouldTell 40 = .ok (.iadd, 1) := by decide +kernel
theorem dX11_wouldTell_41 : decode cX11_wouldTell 41 = .ok (.invokestatic 260, 3) := by decide +kernel
theorem dX11_wouldTell_44 : decode cX11_wouldTell 44 = .ok (.istore 7, 2) := by decide +kernel
theorem dX11_wouldTell_46 : decode cX11_wouldTell 46 = .ok (.iload 7, 2) := by decide +kernel
theorem dX11_wouldTell_48 : decode cX11_wouldTell 48 = .ok (.aload_n 0, 1) := by decide +kernel
theorem dX11_wouldTell_49 : decode cX11_wouldTell 49 = .ok (.getfield 10, 3) := by decide +kernel
theorem dX11_wouldTell_52 : decode cX11_wouldTell 52 = .ok (.iload_n 1, 1) := by decide +kernel
theorem dX11_wouldTell_53 : decode cX11_wouldTell 53 = .ok (.iload_n 2, 1) := by decide +kernel
theorem dX11_wouldTell_54 : decode cX11_wouldTell 54 = .ok (.iload 8, 2) := by decide +kernel
theorem dX11_wouldTell_56 : decode cX11_wouldTell 56 = .ok (.iadd, 1) := by decide +kernel
theorem dX11_wouldTell_57 : decode cX11_wouldTell 57 = .ok (.invokevirtual 263, 3) := by decide +kernel
theorem dX11_wouldTell_60 : decode cX11_wouldTell 60 = .ok (.if_icmp .eq 5, 3) := by decide +kernel
theorem dX11_wouldTell_63 : decode cX11_wouldTell 63 = .ok (.iconst 0, 1) := by decide +kernel
theorem dX11_wouldTell_64 : decode cX11_wouldTell 64 = .ok (.ireturn, 1) := by decide +kernel
theorem dX11_wouldTell_65 : decode cX11_wouldTell 65 = .ok (.iinc 8 1, 3) := by decide +kernel
theorem dX11_wouldTell_68 : decode cX11_wouldTell 68 = .ok (.goto (-53), 3) := by decide +kernel
theorem dX11_wouldTell_71 : decode cX11_wouldTell 71 = .ok (.iconst 1, 1) := by decide +kernel
theorem dX11_wouldTell_72 : decode cX11_wouldTell 72 = .ok (.ireturn, 1) := by decide +kernel
theorem dX11_isEither_0 : decode cX11_isEither 0 = .ok (.iload_n 0, 1) := by decide +kernel
theorem dX11_isEither_1 : decode cX11_isEither 1 = .ok (.ifCond .eq 8, 3) := by decide +kernel
theorem dX11_isEither_4 : decode cX11_isEither 4 = .ok (.iload_n 0, 1) := by decide +kernel
theorem dX11_isEither_5 : decode cX11_isEither 5 = .ok (.iconst 1, 1) := by decide +kernel
theorem dX11_isEither_6 : decode cX11_isEither 6 = .ok (.if_icmp .ne 7, 3) := by decide +kernel
theorem dX11_isEither_9 : decode cX11_isEither 9 = .ok (.iconst 1, 1) := by decide +kernel
theorem dX11_isEither_10 : decode cX11_isEither 10 = .ok (.goto 4, 3) := by decide +kernel
theorem dX11_isEither_13 : decode cX11_isEither 13 = .ok (.iconst 0, 1) := by decide +kernel
theorem dX11_isEither_14 : decode cX11_isEither 14 = .ok (.ireturn, 1) := by decide +kernel
theorem dX11_isIn_0 : decode cX11_isIn 0 = .ok (.iload_n 0, 1) := by decide +kernel
theorem dX11_isIn_1 : decode cX11_isIn 1 = .ok (.iload_n 1, 1) := by decide +kernel
theorem dX11_isIn_2 : decode cX11_isIn 2 = .ok (.ishr, 1) := by decide +kernel
theorem dX11_isIn_3 : decode cX11_isIn 3 = .ok (.iconst 1, 1) := by decide +kernel
theorem dX11_isIn_4 : decode cX11_isIn 4 = .ok (.iand, 1) := by decide +kernel
theorem dX11_isIn_5 : decode cX11_isIn 5 = .ok (.iconst 1, 1) := by decide +kernel
theorem dX11_isIn_6 : decode cX11_isIn 6 = .ok (.if_icmp .ne 7, 3) := by decide +kernel
theorem dX11_isIn_9 : decode cX11_isIn 9 = .ok (.iconst 1, 1) := by decide +kernel
theorem dX11_isIn_10 : decode cX11_isIn 10 = .ok (.goto 4, 3) := by decide +kernel
theorem dX11_isIn_13 : decode cX11_isIn 13 = .ok (.iconst 0, 1) := by decide +kernel
theorem dX11_isIn_14 : decode cX11_isIn 14 = .ok (.ireturn, 1) := by decide +kernel
theorem dX11_atMost_0 : decode cX11_atMost 0 = .ok (.iload_n 0, 1) := by decide +kernel
theorem dX11_atMost_1 : decode cX11_atMost 1 = .ok (.sipush 9999, 3) := by decide +kernel
theorem dX11_atMost_4 : decode cX11_atMost 4 = .ok (.invokestatic 266, 3) := by decide +kernel
theorem dX11_atMost_7 : decode cX11_atMost 7 = .ok (.ireturn, 1) := by decide +kernel
theorem dX11_isOfKind_0 : decode cX11_isOfKind 0 = .ok (.iload_n 1, 1) := by decide +kernel
theorem dX11_isOfKind_1 : decode cX11_isOfKind 1 = .ok (.tableswitch 57 0 4 #[35, 37, 42, 47, 52], 35) := by decide +kernel
theorem dX11_isOfKind_36 : decode cX11_isOfKind 36 = .ok (.iconst 1, 1) := by decide +kernel
theorem dX11_isOfKind_37 : decode cX11_isOfKind 37 = .ok (.ireturn, 1) := by decide +kernel
theorem dX11_isOfKind_38 : decode cX11_isOfKind 38 = .ok (.aload_n 0, 1) := by decide +kernel
theorem dX11_isOfKind_39 : decode cX11_isOfKind 39 = .ok (.instanceof 271, 3) := by decide +kernel
theorem dX11_isOfKind_42 : decode cX11_isOfKind 42 = .ok (.ireturn, 1) := by decide +kernel
theorem dX11_isOfKind_43 : decode cX11_isOfKind 43 = .ok (.aload_n 0, 1) := by decide +kernel
theorem dX11_isOfKind_44 : decode cX11_isOfKind 44 = .ok (.instanceof 273, 3) := by decide +kernel
theorem dX11_isOfKind_47 : decode cX11_isOfKind 47 = .ok (.ireturn, 1) := by decide +kernel
theorem dX11_isOfKind_48 : decode cX11_isOfKind 48 = .ok (.aload_n 0, 1) := by decide +kernel
theorem dX11_isOfKind_49 : decode cX11_isOfKind 49 = .ok (.instanceof 275, 3) := by decide +kernel
theorem dX11_isOfKind_52 : decode cX11_isOfKind 52 = .ok (.ireturn, 1) := by decide +kernel
theorem dX11_isOfKind_53 : decode cX11_isOfKind 53 = .ok (.aload_n 0, 1) := by decide +kernel
theorem dX11_isOfKind_54 : decode cX11_isOfKind 54 = .ok (.instanceof 277, 3) := by decide +kernel
theorem dX11_isOfKind_57 : decode cX11_isOfKind 57 = .ok (.ireturn, 1) := by decide +kernel
theorem dX11_isOfKind_58 : decode cX11_isOfKind 58 = .ok (.aload_n 0, 1) := by decide +kernel
theorem dX11_isOfKind_59 : decode cX11_isOfKind 59 = .ok (.instanceof 279, 3) := by decide +kernel
theorem dX11_isOfKind_62 : decode cX11_isOfKind 62 = .ok (.ireturn, 1) := by decide +kernel
