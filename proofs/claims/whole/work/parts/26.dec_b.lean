theorem dX3_init_0 : decode cX3_init 0 = .ok (.aload_n 0, 1) := by decide +kernel
theorem dX3_init_1 : decode cX3_init 1 = .ok (.invokespecial 3, 3) := by decide +kernel
theorem dX3_init_4 : decode cX3_init 4 = .ok (.aload_n 0, 1) := by decide +kernel
theorem dX3_init_5 : decode cX3_init 5 = .ok (.bipush 7, 2) := by decide +kernel
theorem dX3_init_7 : decode cX3_init 7 = .ok (.newarray .int, 2) := by decide +kernel
theorem dX3_init_9 : decode cX3_init 9 = .ok (.putfield 9, 3) := by decide +kernel
theorem dX3_init_12 : decode cX3_init 12 = .ok (.aload_n 0, 1) := by decide +kernel
theorem dX3_init_13 : decode cX3_init 13 = .ok (.bipush 7, 2) := by decide +kernel
theorem dX3_init_15 : decode cX3_init 15 = .ok (.newarray .int, 2) := by decide +kernel
theorem dX3_init_17 : decode cX3_init 17 = .ok (.putfield 15, 3) := by decide +kernel
theorem dX3_init_20 : decode cX3_init 20 = .ok (.aload_n 0, 1) := by decide +kernel
theorem dX3_init_21 : decode cX3_init 21 = .ok (.bipush 7, 2) := by decide +kernel
theorem dX3_init_23 : decode cX3_init 23 = .ok (.newarray .int, 2) := by decide +kernel
theorem dX3_init_25 : decode cX3_init 25 = .ok (.putfield 18, 3) := by decide +kernel
theorem dX3_init_28 : decode cX3_init 28 = .ok (.aload_n 0, 1) := by decide +kernel
theorem dX3_init_29 : decode cX3_init 29 = .ok (.bipush 7, 2) := by decide +kernel
theorem dX3_init_31 : decode cX3_init 31 = .ok (.newarray .int, 2) := by decide +kernel
theorem dX3_init_33 : decode cX3_init 33 = .ok (.putfield 21, 3) := by decide +kernel
theorem dX3_init_36 : decode cX3_init 36 = .ok (.aload_n 0, 1) := by decide +kernel
theorem dX3_init_37 : decode cX3_init 37 = .ok (.aload_n 1, 1) := by decide +kernel
theorem dX3_init_38 : decode cX3_init 38 = .ok (.putfield 24, 3) := by decide +kernel
theorem dX3_init_41 : decode cX3_init 41 = .ok (.return_, 1) := by decide +kernel
theorem dX3_become_0 : decode cX3_become 0 = .ok (.aload_n 0, 1) := by decide +kernel
theorem dX3_become_1 : decode cX3_become 1 = .ok (.aload_n 1, 1) := by decide +kernel
theorem dX3_become_2 : decode cX3_become 2 = .ok (.getfield 24, 3) := by decide +kernel
theorem dX3_become_5 : decode cX3_become 5 = .ok (.putfield 24, 3) := by decide +kernel
theorem dX3_become_8 : decode cX3_become 8 = .ok (.aload_n 0, 1) := by decide +kernel
theorem dX3_become_9 : decode cX3_become 9 = .ok (.aload_n 1, 1) := by decide +kernel
theorem dX3_become_10 : decode cX3_become 10 = .ok (.getfield 28, 3) := by decide +kernel
theorem dX3_become_13 : decode cX3_become 13 = .ok (.putfield 28, 3) := by decide +kernel
theorem dX3_become_16 : decode cX3_become 16 = .ok (.aload_n 1, 1) := by decide +kernel
theorem dX3_become_17 : decode cX3_become 17 = .ok (.getfield 9, 3) := by decide +kernel
theorem dX3_become_20 : decode cX3_become 20 = .ok (.iconst 0, 1) := by decide +kernel
theorem dX3_become_21 : decode cX3_become 21 = .ok (.aload_n 0, 1) := by decide +kernel
theorem dX3_become_22 : decode cX3_become 22 = .ok (.getfield 9, 3) := by decide +kernel
theorem dX3_become_25 : decode cX3_become 25 = .ok (.iconst 0, 1) := by decide +kernel
theorem dX3_become_26 : decode cX3_become 26 = .ok (.bipush 7, 2) := by decide +kernel
theorem dX3_become_28 : decode cX3_become 28 = .ok (.invokestatic 32, 3) := by decide +kernel
theorem dX3_become_31 : decode cX3_become 31 = .ok (.aload_n 1, 1) := by decide +kernel
theorem dX3_become_32 : decode cX3_become 32 = .ok (.getfield 15, 3) := by decide +kernel
theorem dX3_become_35 : decode cX3_become 35 = .ok (.iconst 0, 1) := by decide +kernel
theorem dX3_become_36 : decode cX3_become 36 = .ok (.aload_n 0, 1) := by decide +kernel
theorem dX3_become_37 : decode cX3_become 37 = .ok (.getfield 15, 3) := by decide +kernel
theorem dX3_become_40 : decode cX3_become 40 = .ok (.iconst 0, 1) := by decide +kernel
theorem dX3_become_41 : decode cX3_become 41 = .ok (.bipush 7, 2) := by decide +kernel
theorem dX3_become_43 : decode cX3_become 43 = .ok (.invokestatic 32, 3) := by decide +kernel
theorem dX3_become_46 : decode cX3_become 46 = .ok (.aload_n 1, 1) := by decide +kernel
theorem dX3_become_47 : decode cX3_become 47 = .ok (.getfield 18, 3) := by decide +kernel
theorem dX3_become_50 : decode cX3_become 50 = .ok (.iconst 0, 1) := by decide +kernel
theorem dX3_become_51 : decode cX3_become 51 = .ok (.aload_n 0, 1) := by decide +kernel
theorem dX3_become_52 : decode cX3_become 52 = .ok (.getfield 18, 3) := by decide +kernel
theorem dX3_become_55 : decode cX3_become 55 = .ok (.iconst 0, 1) := by decide +kernel
theorem dX3_become_56 : decode cX3_become 56 = .ok (.bipush 7, 2) := by decide +kernel
theorem dX3_become_58 : decode cX3_become 58 = .ok (.invokestatic 32, 3) := by decide +kernel
theorem dX3_become_61 : decode cX3_become 61 = .ok (.aload_n 1, 1) := by decide +kernel
theorem dX3_become_62 : decode cX3_become 62 = .ok (.getfield 21, 3) := by decide +kernel
theorem dX3_become_65 : decode cX3_become 65 = .ok (.iconst 0, 1) := by decide +kernel
theorem dX3_become_66 : decode cX3_become 66 = .ok (.aload_n 0, 1) := by decide +kernel
theorem dX3_become_67 : decode cX3_become 67 = .ok (.getfield 21, 3) := by decide +kernel
theorem dX3_become_70 : decode cX3_become 70 = .ok (.iconst 0, 1) := by decide +kernel
theorem dX3_become_71 : decode cX3_become 71 = .ok (.bipush 7, 2) := by decide +kernel
theorem dX3_become_73 : decode cX3_become 73 = .ok (.invokestatic 32, 3) := by decide +kernel
theorem dX3_become_76 : decode cX3_become 76 = .ok (.return_, 1) := by decide +kernel
theorem dX3_isThere_0 : decode cX3_isThere 0 = .ok (.aload_n 0, 1) := by decide +kernel
theorem dX3_isThere_1 : decode cX3_isThere 1 = .ok (.getfield 24, 3) := by decide +kernel
theorem dX3_isThere_4 : decode cX3_isThere 4 = .ok (.ifnull 7, 3) := by decide +kernel
theorem dX3_isThere_7 : decode cX3_isThere 7 = .ok (.iconst 1, 1) := by decide +kernel
theorem dX3_isThere_8 : decode cX3_isThere 8 = .ok (.goto 4, 3) := by decide +kernel
theorem dX3_isThere_11 : decode cX3_isThere 11 = .ok (.iconst 0, 1) := by decide +kernel
theorem dX3_isThere_12 : decode cX3_isThere 12 = .ok (.ireturn, 1) := by decide +kernel
theorem dX3_spots_0 : decode cX3_spots 0 = .ok (.aload_n 0, 1) := by decide +kernel
theorem dX3_spots_1 : decode cX3_spots 1 = .ok (.getfield 24, 3) := by decide +kernel
theorem dX3_spots_4 : decode cX3_spots 4 = .ok (.ifnonnull 7, 3) := by decide +kernel
theorem dX3_spots_7 : decode cX3_spots 7 = .ok (.iconst 0, 1) := by decide +kernel
theorem dX3_spots_8 : decode cX3_spots 8 = .ok (.goto 10, 3) := by decide +kernel
theorem dX3_spots_11 : decode cX3_spots 11 = .ok (.aload_n 0, 1) := by decide +kernel
theorem dX3_spots_12 : decode cX3_spots 12 = .ok (.getfield 24, 3) := by decide +kernel
theorem dX3_spots_15 : decode cX3_spots 15 = .ok (.getfield 38, 3) := by decide +kernel
theorem dX3_spots_18 : decode cX3_spots 18 = .ok (.ireturn, 1) := by decide +kernel
theorem dX3_readers_0 : decode cX3_readers 0 = .ok (.aload_n 0, 1) := by decide +kernel
theorem dX3_readers_1 : decode cX3_readers 1 = .ok (.getfield 24, 3) := by decide +kernel
theorem dX3_readers_4 : decode cX3_readers 4 = .ok (.ifnonnull 7, 3) := by decide +kernel
theorem dX3_readers_7 : decode cX3_readers 7 = .ok (.iconst 0, 1) := by decide +kernel
theorem dX3_readers_8 : decode cX3_readers 8 = .ok (.goto 10, 3) := by decide +kernel
theorem dX3_readers_11 : decode cX3_readers 11 = .ok (.aload_n 0, 1) := by decide +kernel
theorem dX3_readers_12 : decode cX3_readers 12 = .ok (.getfield 24, 3) := by decide +kernel
theorem dX3_readers_15 : decode cX3_readers 15 = .ok (.getfield 43, 3) := by decide +kernel
theorem dX3_readers_18 : decode cX3_readers 18 = .ok (.ireturn, 1) := by decide +kernel
theorem dX3_allSpots_0 : decode cX3_allSpots 0 = .ok (.iconst 1, 1) := by decide +kernel
theorem dX3_allSpots_1 : decode cX3_allSpots 1 = .ok (.aload_n 0, 1) := by decide +kernel
theorem dX3_allSpots_2 : decode cX3_allSpots 2 = .ok (.invokevirtual 46, 3) := by decide +kernel
theorem dX3_allSpots_5 : decode cX3_allSpots 5 = .ok (.ishl, 1) := by decide +kernel
theorem dX3_allSpots_6 : decode cX3_allSpots 6 = .ok (.iconst 1, 1) := by decide +kernel
theorem dX3_allSpots_7 : decode cX3_allSpots 7 = .ok (.isub, 1) := by decide +kernel
theorem dX3_allSpots_8 : decode cX3_allSpots 8 = .ok (.ireturn, 1) := by decide +kernel
theorem dX3_allReaders_0 : decode cX3_allReaders 0 = .ok (.iconst 1, 1) := by decide +kernel
theorem dX3_allReaders_1 : decode cX3_allReaders 1 = .ok (.aload_n 0, 1) := by decide +kernel
theorem dX3_allReaders_2 : decode cX3_allReaders 2 = .ok (.invokevirtual 49, 3) := by decide +kernel
theorem dX3_allReaders_5 : decode cX3_allReaders 5 = .ok (.ishl, 1) := by decide +kernel
theorem dX3_allReaders_6 : decode cX3_allReaders 6 = .ok (.iconst 1, 1) := by decide +kernel
theorem dX3_allReaders_7 : decode cX3_allReaders 7 = .ok (.isub, 1) := by decide +kernel
theorem dX3_allReaders_8 : decode cX3_allReaders 8 = .ok (.ireturn, 1) := by decide +kernel
theorem dX3_isSpot_0 : decode cX3_isSpot 0 = .ok (.iload_n 1, 1) := by decide +kernel
theorem dX3_isSpot_1 : decode cX3_isSpot 1 = .ok (.ifCond .lt 15, 3) := by decide +kernel
theorem dX3_isSpot_4 : decode cX3_isSpot 4 = .ok (.iload_n 1, 1) := by decide +kernel
theorem dX3_isSpot_5 : decode cX3_isSpot 5 = .ok (.aload_n 0, 1) := by decide +kernel
theorem dX3_isSpot_6 : decode cX3_isSpot 6 = .ok (.invokevirtual 46, 3) := by decide +kernel
theorem dX3_isSpot_9 : decode cX3_isSpot 9 = .ok (.if_icmp .ge 7, 3) := by decide +kernel
theorem dX3_isSpot_12 : decode cX3_isSpot 12 = .ok (.iconst 1, 1) := by decide +kernel
theorem dX3_isSpot_13 : decode cX3_isSpot 13 = .ok (.goto 4, 3) := by decide +kernel
theorem dX3_isSpot_16 : decode cX3_isSpot 16 = .ok (.iconst 0, 1) := by decide +kernel
theorem dX3_isSpot_17 : decode cX3_isSpot 17 = .ok (.ireturn, 1) := by decide +kernel
theorem dX3_isSet_0 : decode cX3_isSet 0 = .ok (.iload_n 1, 1) := by decide +kernel
theorem dX3_isSet_1 : decode cX3_isSet 1 = .ok (.aload_n 0, 1) := by decide +kernel
theorem dX3_isSet_2 : decode cX3_isSet 2 = .ok (.invokevirtual 51, 3) := by decide +kernel
theorem dX3_isSet_5 : decode cX3_isSet 5 = .ok (.iconst (-1), 1) := by decide +kernel
theorem dX3_isSet_6 : decode cX3_isSet 6 = .ok (.ixor, 1) := by decide +kernel
theorem dX3_isSet_7 : decode cX3_isSet 7 = .ok (.iand, 1) := by decide +kernel
theorem dX3_isSet_8 : decode cX3_isSet 8 = .ok (.ifCond .ne 7, 3) := by decide +kernel
theorem dX3_isSet_11 : decode cX3_isSet 11 = .ok (.iconst 1, 1) := by decide +kernel
theorem dX3_isSet_12 : decode cX3_isSet 12 = .ok (.goto 4, 3) := by decide +kernel
theorem dX3_isSet_15 : decode cX3_isSet 15 = .ok (.iconst 0, 1) := by decide +kernel
theorem dX3_isSet_16 : decode cX3_isSet 16 = .ok (.ireturn, 1) := by decide +kernel
theorem dX3_placeAt_0 : decode cX3_placeAt 0 = .ok (.aload_n 0, 1) := by decide +kernel
theorem dX3_placeAt_1 : decode cX3_placeAt 1 = .ok (.getfield 24, 3) := by decide +kernel
theorem dX3_placeAt_4 : decode cX3_placeAt 4 = .ok (.ifnull 18, 3) := by decide +kernel
theorem dX3_placeAt_7 : decode cX3_placeAt 7 = .ok (.iload_n 1, 1) := by decide +kernel
theorem dX3_placeAt_8 : decode cX3_placeAt 8 = .ok (.ifCond .lt 14, 3) := by decide +kernel
theorem dX3_placeAt_11 : decode cX3_placeAt 11 = .ok (.iload_n 1, 1) := by decide +kernel
theorem dX3_placeAt_12 : decode cX3_placeAt 12 = .ok (.aload_n 0, 1) := by decide +kernel
theorem dX3_placeAt_13 : decode cX3_placeAt 13 = .ok (.getfield 24, 3) := by decide +kernel
theorem dX3_placeAt_16 : decode cX3_placeAt 16 = .ok (.getfield 38, 3) := by decide +kernel
theorem dX3_placeAt_19 : decode cX3_placeAt 19 = .ok (.if_icmp .lt 7, 3) := by decide +kernel
theorem dX3_placeAt_22 : decode cX3_placeAt 22 = .ok (.aconst_null, 1) := by decide +kernel
theorem dX3_placeAt_23 : decode cX3_placeAt 23 = .ok (.goto 12, 3) := by decide +kernel
theorem dX3_placeAt_26 : decode cX3_placeAt 26 = .ok (.aload_n 0, 1) := by decide +kernel
theorem dX3_placeAt_27 : decode cX3_placeAt 27 = .ok (.getfield 24, 3) := by decide +kernel
theorem dX3_placeAt_30 : decode cX3_placeAt 30 = .ok (.getfield 54, 3) := by decide +kernel
theorem dX3_placeAt_33 : decode cX3_placeAt 33 = .ok (.iload_n 1, 1) := by decide +kernel
theorem dX3_placeAt_34 : decode cX3_placeAt 34 = .ok (.aaload, 1) := by decide +kernel
theorem dX3_placeAt_35 : decode cX3_placeAt 35 = .ok (.areturn, 1) := by decide +kernel
theorem dX3_isOut_0 : decode cX3_isOut 0 = .ok (.aload_n 0, 1) := by decide +kernel
theorem dX3_isOut_1 : decode cX3_isOut 1 = .ok (.getfield 21, 3) := by decide +kernel
theorem dX3_isOut_4 : decode cX3_isOut 4 = .ok (.iload_n 1, 1) := by decide +kernel
theorem dX3_isOut_5 : decode cX3_isOut 5 = .ok (.iaload, 1) := by decide +kernel
theorem dX3_isOut_6 : decode cX3_isOut 6 = .ok (.ifCond .le 7, 3) := by decide +kernel
theorem dX3_isOut_9 : decode cX3_isOut 9 = .ok (.iconst 1, 1) := by decide +kernel
theorem dX3_isOut_10 : decode cX3_isOut 10 = .ok (.goto 4, 3) := by decide +kernel
theorem dX3_isOut_13 : decode cX3_isOut 13 = .ok (.iconst 0, 1) := by decide +kernel
theorem dX3_isOut_14 : decode cX3_isOut 14 = .ok (.ireturn, 1) := by decide +kernel
theorem dX3_howManyOut_0 : decode cX3_howManyOut 0 = .ok (.iconst 0, 1) := by decide +kernel
theorem dX3_howManyOut_1 : decode cX3_howManyOut 1 = .ok (.istore_n 1, 1) := by decide +kernel
theorem dX3_howManyOut_2 : decode cX3_howManyOut 2 = .ok (.iconst 0, 1) := by decide +kernel
theorem dX3_howManyOut_3 : decode cX3_howManyOut 3 = .ok (.istore_n 2, 1) := by decide +kernel
theorem dX3_howManyOut_4 : decode cX3_howManyOut 4 = .ok (.iload_n 2, 1) := by decide +kernel
theorem dX3_howManyOut_5 : decode cX3_howManyOut 5 = .ok (.aload_n 0, 1) := by decide +kernel
theorem dX3_howManyOut_6 : decode cX3_howManyOut 6 = .ok (.invokevirtual 46, 3) := by decide +kernel
theorem dX3_howManyOut_9 : decode cX3_howManyOut 9 = .ok (.if_icmp .ge 25, 3) := by decide +kernel
theorem dX3_howManyOut_12 : decode cX3_howManyOut 12 = .ok (.iload_n 1, 1) := by decide +kernel
theorem dX3_howManyOut_13 : decode cX3_howManyOut 13 = .ok (.aload_n 0, 1) := by decide +kernel
theorem dX3_howManyOut_14 : decode cX3_howManyOut 14 = .ok (.iload_n 2, 1) := by decide +kernel
theorem dX3_howManyOut_15 : decode cX3_howManyOut 15 = .ok (.invokevirtual 58, 3) := by decide +kernel
theorem dX3_howManyOut_18 : decode cX3_howManyOut 18 = .ok (.ifCond .eq 7, 3) := by decide +kernel
theorem dX3_howManyOut_21 : decode cX3_howManyOut 21 = .ok (.iconst 1, 1) := by decide +kernel
theorem dX3_howManyOut_22 : decode cX3_howManyOut 22 = .ok (.goto 4, 3) := by decide +kernel
theorem dX3_howManyOut_25 : decode cX3_howManyOut 25 = .ok (.iconst 0, 1) := by decide +kernel
theorem dX3_howManyOut_26 : decode cX3_howManyOut 26 = .ok (.iadd, 1) := by decide +kernel
theorem dX3_howManyOut_27 : decode cX3_howManyOut 27 = .ok (.istore_n 1, 1) := by decide +kernel
theorem dX3_howManyOut_28 : decode cX3_howManyOut 28 = .ok (.iinc 2 1, 3) := by decide +kernel
theorem dX3_howManyOut_31 : decode cX3_howManyOut 31 = .ok (.goto (-27), 3) := by decide +kernel
theorem dX3_howManyOut_34 : decode cX3_howManyOut 34 = .ok (.iload_n 1, 1) := by decide +kernel
theorem dX3_howManyOut_35 : decode cX3_howManyOut 35 = .ok (.ireturn, 1) := by decide +kernel
theorem dX3_passHour_0 : decode cX3_passHour 0 = .ok (.iconst 0, 1) := by decide +kernel
theorem dX3_passHour_1 : decode cX3_passHour 1 = .ok (.istore_n 1, 1) := by decide +kernel
theorem dX3_passHour_2 : decode cX3_passHour 2 = .ok (.iload_n 1, 1) := by decide +kernel
theorem dX3_passHour_3 : decode cX3_passHour 3 = .ok (.aload_n 0, 1) := by decide +kernel
theorem dX3_passHour_4 : decode cX3_passHour 4 = .ok (.invokevirtual 46, 3) := by decide +kernel
theorem dX3_passHour_7 : decode cX3_passHour 7 = .ok (.if_icmp .ge 63, 3) := by decide +kernel
theorem dX3_passHour_10 : decode cX3_passHour 10 = .ok (.aload_n 0, 1) := by decide +kernel
theorem dX3_passHour_11 : decode cX3_passHour 11 = .ok (.getfield 9, 3) := by decide +kernel
theorem dX3_passHour_14 : decode cX3_passHour 14 = .ok (.iload_n 1, 1) := by decide +kernel
theorem dX3_passHour_15 : decode cX3_passHour 15 = .ok (.aload_n 0, 1) := by decide +kernel
theorem dX3_passHour_16 : decode cX3_passHour 16 = .ok (.iload_n 1, 1) := by decide +kernel
theorem dX3_passHour_17 : decode cX3_passHour 17 = .ok (.aload_n 0, 1) := by decide +kernel
theorem dX3_passHour_18 : decode cX3_passHour 18 = .ok (.getfield 9, 3) := by decide +kernel
theorem dX3_passHour_21 : decode cX3_passHour 21 = .ok (.iload_n 1, 1) := by decide +kernel
theorem dX3_passHour_22 : decode cX3_passHour 22 = .ok (.iaload, 1) := by decide +kernel
theorem dX3_passHour_23 : decode cX3_passHour 23 = .ok (.iconst 0, 1) := by decide +kernel
theorem dX3_passHour_24 : decode cX3_passHour 24 = .ok (.invokevirtual 62, 3) := by decide +kernel
theorem dX3_passHour_27 : decode cX3_passHour 27 = .ok (.iastore, 1) := by decide +kernel
theorem dX3_passHour_28 : decode cX3_passHour 28 = .ok (.aload_n 0, 1) := by decide +kernel
theorem dX3_passHour_29 : decode cX3_passHour 29 = .ok (.getfield 18, 3) := by decide +kernel
theorem dX3_passHour_32 : decode cX3_passHour 32 = .ok (.iload_n 1, 1) := by decide +kernel
theorem dX3_passHour_33 : decode cX3_passHour 33 = .ok (.aload_n 0, 1) := by decide +kernel
theorem dX3_passHour_34 : decode cX3_passHour 34 = .ok (.iload_n 1, 1) := by decide +kernel
theorem dX3_passHour_35 : decode cX3_passHour 35 = .ok (.aload_n 0, 1) := by decide +kernel
theorem dX3_passHour_36 : decode cX3_passHour 36 = .ok (.getfield 18, 3) := by decide +kernel
theorem dX3_passHour_39 : decode cX3_passHour 39 = .ok (.iload_n 1, 1) := by decide +kernel
theorem dX3_passHour_40 : decode cX3_passHour 40 = .ok (.iaload, 1) := by decide +kernel
theorem dX3_passHour_41 : decode cX3_passHour 41 = .ok (.iconst 0, 1) := by decide +kernel
theorem dX3_passHour_42 : decode cX3_passHour 42 = .ok (.invokevirtual 66, 3) := by decide +kernel
theorem dX3_passHour_45 : decode cX3_passHour 45 = .ok (.iastore, 1) := by decide +kernel
theorem dX3_passHour_46 : decode cX3_passHour 46 = .ok (.aload_n 0, 1) := by decide +kernel
theorem dX3_passHour_47 : decode cX3_passHour 47 = .ok (.getfield 21, 3) := by decide +kernel
theorem dX3_passHour_50 : decode cX3_passHour 50 = .ok (.iload_n 1, 1) := by decide +kernel
theorem dX3_passHour_51 : decode cX3_passHour 51 = .ok (.aload_n 0, 1) := by decide +kernel
theorem dX3_passHour_52 : decode cX3_passHour 52 = .ok (.getfield 21, 3) := by decide +kernel
theorem dX3_passHour_55 : decode cX3_passHour 55 = .ok (.iload_n 1, 1) := by decide +kernel
theorem dX3_passHour_56 : decode cX3_passHour 56 = .ok (.iaload, 1) := by decide +kernel
theorem dX3_passHour_57 : decode cX3_passHour 57 = .ok (.iconst 1, 1) := by decide +kernel
theorem dX3_passHour_58 : decode cX3_passHour 58 = .ok (.isub, 1) := by decide +kernel
theorem dX3_passHour_59 : decode cX3_passHour 59 = .ok (.iconst 0, 1) := by decide +kernel
theorem dX3_passHour_60 : decode cX3_passHour 60 = .ok (.invokestatic 69, 3) := by decide +kernel
theorem dX3_passHour_63 : decode cX3_passHour 63 = .ok (.iastore, 1) := by decide +kernel
theorem dX3_passHour_64 : decode cX3_passHour 64 = .ok (.iinc 1 1, 3) := by decide +kernel
theorem dX3_passHour_67 : decode cX3_passHour 67 = .ok (.goto (-65), 3) := by decide +kernel
theorem dX3_passHour_70 : decode cX3_passHour 70 = .ok (.aload_n 0, 1) := by decide +kernel
theorem dX3_passHour_71 : decode cX3_passHour 71 = .ok (.dup, 1) := by decide +kernel
theorem dX3_passHour_72 : decode cX3_passHour 72 = .ok (.getfield 28, 3) := by decide +kernel
theorem dX3_passHour_75 : decode cX3_passHour 75 = .ok (.iconst 1, 1) := by decide +kernel
theorem dX3_passHour_76 : decode cX3_passHour 76 = .ok (.iadd, 1) := by decide +kernel
theorem dX3_passHour_77 : decode cX3_passHour 77 = .ok (.putfield 28, 3) := by decide +kernel
theorem dX3_passHour_80 : decode cX3_passHour 80 = .ok (.return_, 1) := by decide +kernel
theorem dX3_wipe_0 : decode cX3_wipe 0 = .ok (.aload_n 0, 1) := by decide +kernel
theorem dX3_wipe_1 : decode cX3_wipe 1 = .ok (.getfield 9, 3) := by decide +kernel
theorem dX3_wipe_4 : decode cX3_wipe 4 = .ok (.iload_n 1, 1) := by decide +kernel
theorem dX3_wipe_5 : decode cX3_wipe 5 = .ok (.iaload, 1) := by decide +kernel
theorem dX3_wipe_6 : decode cX3_wipe 6 = .ok (.istore_n 2, 1) := by decide +kernel
theorem dX3_wipe_7 : decode cX3_wipe 7 = .ok (.aload_n 0, 1) := by decide +kernel
theorem dX3_wipe_8 : decode cX3_wipe 8 = .ok (.getfield 9, 3) := by decide +kernel
theorem dX3_wipe_11 : decode cX3_wipe 11 = .ok (.iload_n 1, 1) := by decide +kernel
theorem dX3_wipe_12 : decode cX3_wipe 12 = .ok (.iconst 0, 1) := by decide +kernel
theorem dX3_wipe_13 : decode cX3_wipe 13 = .ok (.iastore, 1) := by decide +kernel
theorem dX3_wipe_14 : decode cX3_wipe 14 = .ok (.iload_n 2, 1) := by decide +kernel
theorem dX3_wipe_15 : decode cX3_wipe 15 = .ok (.ireturn, 1) := by decide +kernel
theorem dX3_swap_0 : decode cX3_swap 0 = .ok (.aload_n 0, 1) := by decide +kernel
theorem dX3_swap_1 : decode cX3_swap 1 = .ok (.getfield 15, 3) := by decide +kernel
theorem dX3_swap_4 : decode cX3_swap 4 = .ok (.iload_n 1, 1) := by decide +kernel
theorem dX3_swap_5 : decode cX3_swap 5 = .ok (.iaload, 1) := by decide +kernel
theorem dX3_swap_6 : decode cX3_swap 6 = .ok (.istore_n 3, 1) := by decide +kernel
theorem dX3_swap_7 : decode cX3_swap 7 = .ok (.aload_n 0, 1) := by decide +kernel
theorem dX3_swap_8 : decode cX3_swap 8 = .ok (.getfield 18, 3) := by decide +kernel
theorem dX3_swap_11 : decode cX3_swap 11 = .ok (.iload_n 1, 1) := by decide +kernel
theorem dX3_swap_12 : decode cX3_swap 12 = .ok (.iaload, 1) := by decide +kernel
theorem dX3_swap_13 : decode cX3_swap 13 = .ok (.istore 4, 2) := by decide +kernel
theorem dX3_swap_15 : decode cX3_swap 15 = .ok (.aload_n 0, 1) := by decide +kernel
theorem dX3_swap_16 : decode cX3_swap 16 = .ok (.getfield 15, 3) := by decide +kernel
theorem dX3_swap_19 : decode cX3_swap 19 = .ok (.iload_n 1, 1) := by decide +kernel
theorem dX3_swap_20 : decode cX3_swap 20 = .ok (.aload_n 0, 1) := by decide +kernel
theorem dX3_swap_21 : decode cX3_swap 21 = .ok (.getfield 15, 3) := by decide +kernel
theorem dX3_swap_24 : decode cX3_swap 24 = .ok (.iload_n 2, 1) := by decide +kernel
theorem dX3_swap_25 : decode cX3_swap 25 = .ok (.iaload, 1) := by decide +kernel
theorem dX3_swap_26 : decode cX3_swap 26 = .ok (.iastore, 1) := by decide +kernel
theorem dX3_swap_27 : decode cX3_swap 27 = .ok (.aload_n 0, 1) := by decide +kernel
theorem dX3_swap_28 : decode cX3_swap 28 = .ok (.getfield 18, 3) := by decide +kernel
theorem dX3_swap_31 : decode cX3_swap 31 = .ok (.iload_n 1, 1) := by decide +kernel
theorem dX3_swap_32 : decode cX3_swap 32 = .ok (.aload_n 0, 1) := by decide +kernel
theorem dX3_swap_33 : decode cX3_swap 33 = .ok (.getfield 18, 3) := by decide +kernel
theorem dX3_swap_36 : decode cX3_swap 36 = .ok (.iload_n 2, 1) := by decide +kernel
theorem dX3_swap_37 : decode cX3_swap 37 = .ok (.iaload, 1) := by decide +kernel
theorem dX3_swap_38 : decode cX3_swap 38 = .ok (.iastore, 1) := by decide +kernel
theorem dX3_swap_39 : decode cX3_swap 39 = .ok (.aload_n 0, 1) := by decide +kernel
theorem dX3_swap_40 : decode cX3_swap 40 = .ok (.getfield 15, 3) := by decide +kernel
theorem dX3_swap_43 : decode cX3_swap 43 = .ok (.iload_n 2, 1) := by decide +kernel
theorem dX3_swap_44 : decode cX3_swap 44 = .ok (.iload_n 3, 1) := by decide +kernel
theorem dX3_swap_45 : decode cX3_swap 45 = .ok (.iastore, 1) := by decide +kernel
theorem dX3_swap_46 : decode cX3_swap 46 = .ok (.aload_n 0, 1) := by decide +kernel
theorem dX3_swap_47 : decode cX3_swap 47 = .ok (.getfield 18, 3) := by decide +kernel
theorem dX3_swap_50 : decode cX3_swap 50 = .ok (.iload_n 2, 1) := by decide +kernel
theorem dX3_swap_51 : decode cX3_swap 51 = .ok (.iload 4, 2) := by decide +kernel
theorem dX3_swap_53 : decode cX3_swap 53 = .ok (.iastore, 1) := by decide +kernel
theorem dX3_swap_54 : decode cX3_swap 54 = .ok (.aload_n 0, 1) := by decide +kernel
theorem dX3_swap_55 : decode cX3_swap 55 = .ok (.iload_n 1, 1) := by decide +kernel
theorem dX3_swap_56 : decode cX3_swap 56 = .ok (.invokevirtual 75, 3) := by decide +kernel
theorem dX3_swap_59 : decode cX3_swap 59 = .ok (.pop, 1) := by decide +kernel
theorem dX3_swap_60 : decode cX3_swap 60 = .ok (.aload_n 0, 1) := by decide +kernel
theorem dX3_swap_61 : decode cX3_swap 61 = .ok (.iload_n 2, 1) := by decide +kernel
theorem dX3_swap_62 : decode cX3_swap 62 = .ok (.invokevirtual 75, 3) := by decide +kernel
theorem dX3_swap_65 : decode cX3_swap 65 = .ok (.pop, 1) := by decide +kernel
theorem dX3_swap_66 : decode cX3_swap 66 = .ok (.return_, 1) := by decide +kernel
theorem dX3_dustNext_0 : decode cX3_dustNext 0 = .ok (.iload_n 3, 1) := by decide +kernel
theorem dX3_dustNext_1 : decode cX3_dustNext 1 = .ok (.aload_n 0, 1) := by decide +kernel
theorem dX3_dustNext_2 : decode cX3_dustNext 2 = .ok (.getfield 21, 3) := by decide +kernel
theorem dX3_dustNext_5 : decode cX3_dustNext 5 = .ok (.iload_n 1, 1) := by decide +kernel
theorem dX3_dustNext_6 : decode cX3_dustNext 6 = .ok (.iaload, 1) := by decide +kernel
theorem dX3_dustNext_7 : decode cX3_dustNext 7 = .ok (.if_icmp .ge 7, 3) := by decide +kernel
theorem dX3_dustNext_10 : decode cX3_dustNext 10 = .ok (.iload_n 2, 1) := by decide +kernel
theorem dX3_dustNext_11 : decode cX3_dustNext 11 = .ok (.goto 19, 3) := by decide +kernel
theorem dX3_dustNext_14 : decode cX3_dustNext 14 = .ok (.iload_n 2, 1) := by decide +kernel
theorem dX3_dustNext_15 : decode cX3_dustNext 15 = .ok (.aload_n 0, 1) := by decide +kernel
theorem dX3_dustNext_16 : decode cX3_dustNext 16 = .ok (.iload_n 1, 1) := by decide +kernel
theorem dX3_dustNext_17 : decode cX3_dustNext 17 = .ok (.aload_n 0, 1) := by decide +kernel
theorem dX3_dustNext_18 : decode cX3_dustNext 18 = .ok (.getfield 28, 3) := by decide +kernel
theorem dX3_dustNext_21 : decode cX3_dustNext 21 = .ok (.iload_n 3, 1) := by decide +kernel
theorem dX3_dustNext_22 : decode cX3_dustNext 22 = .ok (.iadd, 1) := by decide +kernel
theorem dX3_dustNext_23 : decode cX3_dustNext 23 = .ok (.invokevirtual 79, 3) := by decide +kernel
theorem dX3_dustNext_26 : decode cX3_dustNext 26 = .ok (.iadd, 1) := by decide +kernel
theorem dX3_dustNext_27 : decode cX3_dustNext 27 = .ok (.invokestatic 82, 3) := by decide +kernel
theorem dX3_dustNext_30 : decode cX3_dustNext 30 = .ok (.ireturn, 1) := by decide +kernel
theorem dX3_fadedNext_0 : decode cX3_fadedNext 0 = .ok (.aload_n 0, 1) := by decide +kernel
theorem dX3_fadedNext_1 : decode cX3_fadedNext 1 = .ok (.iload_n 1, 1) := by decide +kernel
theorem dX3_fadedNext_2 : decode cX3_fadedNext 2 = .ok (.invokevirtual 85, 3) := by decide +kernel
theorem dX3_fadedNext_5 : decode cX3_fadedNext 5 = .ok (.astore 4, 2) := by decide +kernel
theorem dX3_fadedNext_7 : decode cX3_fadedNext 7 = .ok (.aload 4, 2) := by decide +kernel
theorem dX3_fadedNext_9 : decode cX3_fadedNext 9 = .ok (.ifnull 13, 3) := by decide +kernel
theorem dX3_fadedNext_12 : decode cX3_fadedNext 12 = .ok (.iload_n 3, 1) := by decide +kernel
theorem dX3_fadedNext_13 : decode cX3_fadedNext 13 = .ok (.aload_n 0, 1) := by decide +kernel
theorem dX3_fadedNext_14 : decode cX3_fadedNext 14 = .ok (.getfield 21, 3) := by decide +kernel
theorem dX3_fadedNext_17 : decode cX3_fadedNext 17 = .ok (.iload_n 1, 1) := by decide +kernel
theorem dX3_fadedNext_18 : decode cX3_fadedNext 18 = .ok (.iaload, 1) := by decide +kernel
theorem dX3_fadedNext_19 : decode cX3_fadedNext 19 = .ok (.if_icmp .ge 7, 3) := by decide +kernel
theorem dX3_fadedNext_22 : decode cX3_fadedNext 22 = .ok (.iload_n 2, 1) := by decide +kernel
theorem dX3_fadedNext_23 : decode cX3_fadedNext 23 = .ok (.goto 19, 3) := by decide +kernel
theorem dX3_fadedNext_26 : decode cX3_fadedNext 26 = .ok (.iload_n 2, 1) := by decide +kernel
theorem dX3_fadedNext_27 : decode cX3_fadedNext 27 = .ok (.aload 4, 2) := by decide +kernel
theorem dX3_fadedNext_29 : decode cX3_fadedNext 29 = .ok (.aload_n 0, 1) := by decide +kernel
theorem dX3_fadedNext_30 : decode cX3_fadedNext 30 = .ok (.getfield 28, 3) := by decide +kernel
theorem dX3_fadedNext_33 : decode cX3_fadedNext 33 = .ok (.iload_n 3, 1) := by decide +kernel
theorem dX3_fadedNext_34 : decode cX3_fadedNext 34 = .ok (.iadd, 1) := by decide +kernel
theorem dX3_fadedNext_35 : decode cX3_fadedNext 35 = .ok (.invokevirtual 89, 3) := by decide +kernel
theorem dX3_fadedNext_38 : decode cX3_fadedNext 38 = .ok (.iadd, 1) := by decide +kernel
theorem dX3_fadedNext_39 : decode cX3_fadedNext 39 = .ok (.invokestatic 82, 3) := by decide +kernel
theorem dX3_fadedNext_42 : decode cX3_fadedNext 42 = .ok (.ireturn, 1) := by decide +kernel
theorem dX3_fallAt_0 : decode cX3_fallAt 0 = .ok (.aload_n 0, 1) := by decide +kernel
theorem dX3_fallAt_1 : decode cX3_fallAt 1 = .ok (.iload_n 1, 1) := by decide +kernel
theorem dX3_fallAt_2 : decode cX3_fallAt 2 = .ok (.invokevirtual 85, 3) := by decide +kernel
theorem dX3_fallAt_5 : decode cX3_fallAt 5 = .ok (.astore_n 3, 1) := by decide +kernel
theorem dX3_fallAt_6 : decode cX3_fallAt 6 = .ok (.aload_n 3, 1) := by decide +kernel
theorem dX3_fallAt_7 : decode cX3_fallAt 7 = .ok (.ifnonnull 7, 3) := by decide +kernel
theorem dX3_fallAt_10 : decode cX3_fallAt 10 = .ok (.iconst 0, 1) := by decide +kernel
theorem dX3_fallAt_11 : decode cX3_fallAt 11 = .ok (.goto 12, 3) := by decide +kernel
theorem dX3_fallAt_14 : decode cX3_fallAt 14 = .ok (.aload_n 3, 1) := by decide +kernel
theorem dX3_fallAt_15 : decode cX3_fallAt 15 = .ok (.aload_n 3, 1) := by decide +kernel
theorem dX3_fallAt_16 : decode cX3_fallAt 16 = .ok (.getfield 94, 3) := by decide +kernel
theorem dX3_fallAt_19 : decode cX3_fallAt 19 = .ok (.iload_n 2, 1) := by decide +kernel
theorem dX3_fallAt_20 : decode cX3_fallAt 20 = .ok (.invokevirtual 97, 3) := by decide +kernel
theorem dX3_fallAt_23 : decode cX3_fallAt 23 = .ok (.ireturn, 1) := by decide +kernel
theorem dX3_dustBehind_0 : decode cX3_dustBehind 0 = .ok (.aload_n 0, 1) := by decide +kernel
theorem dX3_dustBehind_1 : decode cX3_dustBehind 1 = .ok (.getfield 9, 3) := by decide +kernel
theorem dX3_dustBehind_4 : decode cX3_dustBehind 4 = .ok (.iload_n 1, 1) := by decide +kernel
theorem dX3_dustBehind_5 : decode cX3_dustBehind 5 = .ok (.iaload, 1) := by decide +kernel
theorem dX3_dustBehind_6 : decode cX3_dustBehind 6 = .ok (.istore_n 3, 1) := by decide +kernel
theorem dX3_dustBehind_7 : decode cX3_dustBehind 7 = .ok (.iconst 0, 1) := by decide +kernel
theorem dX3_dustBehind_8 : decode cX3_dustBehind 8 = .ok (.istore 4, 2) := by decide +kernel
theorem dX3_dustBehind_10 : decode cX3_dustBehind 10 = .ok (.iload 4, 2) := by decide +kernel
theorem dX3_dustBehind_12 : decode cX3_dustBehind 12 = .ok (.iload_n 2, 1) := by decide +kernel
theorem dX3_dustBehind_13 : decode cX3_dustBehind 13 = .ok (.if_icmp .ge 18, 3) := by decide +kernel
theorem dX3_dustBehind_16 : decode cX3_dustBehind 16 = .ok (.aload_n 0, 1) := by decide +kernel
theorem dX3_dustBehind_17 : decode cX3_dustBehind 17 = .ok (.iload_n 1, 1) := by decide +kernel
theorem dX3_dustBehind_18 : decode cX3_dustBehind 18 = .ok (.iload_n 3, 1) := by decide +kernel
theorem dX3_dustBehind_19 : decode cX3_dustBehind 19 = .ok (.iload 4, 2) := by decide +kernel
theorem dX3_dustBehind_21 : decode cX3_dustBehind 21 = .ok (.invokevirtual 62, 3) := by decide +kernel
theorem dX3_dustBehind_24 : decode cX3_dustBehind 24 = .ok (.istore_n 3, 1) := by decide +kernel
theorem dX3_dustBehind_25 : decode cX3_dustBehind 25 = .ok (.iinc 4 1, 3) := by decide +kernel
theorem dX3_dustBehind_28 : decode cX3_dustBehind 28 = .ok (.goto (-18), 3) := by decide +kernel
theorem dX3_dustBehind_31 : decode cX3_dustBehind 31 = .ok (.iload_n 3, 1) := by decide +kernel
theorem dX3_dustBehind_32 : decode cX3_dustBehind 32 = .ok (.ireturn, 1) := by decide +kernel
theorem dX3_fadedBehind_0 : decode cX3_fadedBehind 0 = .ok (.aload_n 0, 1) := by decide +kernel
theorem dX3_fadedBehind_1 : decode cX3_fadedBehind 1 = .ok (.getfield 18, 3) := by decide +kernel
theorem dX3_fadedBehind_4 : decode cX3_fadedBehind 4 = .ok (.iload_n 1, 1) := by decide +kernel
theorem dX3_fadedBehind_5 : decode cX3_fadedBehind 5 = .ok (.iaload, 1) := by decide +kernel
theorem dX3_fadedBehind_6 : decode cX3_fadedBehind 6 = .ok (.istore_n 3, 1) := by decide +kernel
theorem dX3_fadedBehind_7 : decode cX3_fadedBehind 7 = .ok (.iconst 0, 1) := by decide +kernel
theorem dX3_fadedBehind_8 : decode cX3_fadedBehind 8 = .ok (.istore 4, 2) := by decide +kernel
theorem dX3_fadedBehind_10 : decode cX3_fadedBehind 10 = .ok (.iload 4, 2) := by decide +kernel
theorem dX3_fadedBehind_12 : decode cX3_fadedBehind 12 = .ok (.iload_n 2, 1) := by decide +kernel
theorem dX3_fadedBehind_13 : decode cX3_fadedBehind 13 = .ok (.if_icmp .ge 18, 3) := by decide +kernel
theorem dX3_fadedBehind_16 : decode cX3_fadedBehind 16 = .ok (.aload_n 0, 1) := by decide +kernel
theorem dX3_fadedBehind_17 : decode cX3_fadedBehind 17 = .ok (.iload_n 1, 1) := by decide +kernel
theorem dX3_fadedBehind_18 : decode cX3_fadedBehind 18 = .ok (.iload_n 3, 1) := by decide +kernel
theorem dX3_fadedBehind_19 : decode cX3_fadedBehind 19 = .ok (.iload 4, 2) := by decide +kernel
theorem dX3_fadedBehind_21 : decode cX3_fadedBehind 21 = .ok (.invokevirtual 66, 3) := by decide +kernel
theorem dX3_fadedBehind_24 : decode cX3_fadedBehind 24 = .ok (.istore_n 3, 1) := by decide +kernel
theorem dX3_fadedBehind_25 : decode cX3_fadedBehind 25 = .ok (.iinc 4 1, 3) := by decide +kernel
theorem dX3_fadedBehind_28 : decode cX3_fadedBehind 28 = .ok (.goto (-18), 3) := by decide +kernel
theorem dX3_fadedBehind_31 : decode cX3_fadedBehind 31 = .ok (.iload_n 3, 1) := by decide +kernel
theorem dX3_fadedBehind_32 : decode cX3_fadedBehind 32 = .ok (.ireturn, 1) := by decide +kernel
theorem dX3_lastTouch_0 : decode cX3_lastTouch 0 = .ok (.iconst 0, 1) := by decide +kernel
theorem dX3_lastTouch_1 : decode cX3_lastTouch 1 = .ok (.istore_n 3, 1) := by decide +kernel
theorem dX3_lastTouch_2 : decode cX3_lastTouch 2 = .ok (.aload_n 0, 1) := by decide +kernel
theorem dX3_lastTouch_3 : decode cX3_lastTouch 3 = .ok (.getfield 28, 3) := by decide +kernel
theorem dX3_lastTouch_6 : decode cX3_lastTouch 6 = .ok (.istore 4, 2) := by decide +kernel
theorem dX3_lastTouch_8 : decode cX3_lastTouch 8 = .ok (.iload 4, 2) := by decide +kernel
theorem dX3_lastTouch_10 : decode cX3_lastTouch 10 = .ok (.ifCond .le 24, 3) := by decide +kernel
theorem dX3_lastTouch_13 : decode cX3_lastTouch 13 = .ok (.iload_n 3, 1) := by decide +kernel
theorem dX3_lastTouch_14 : decode cX3_lastTouch 14 = .ok (.iload_n 2, 1) := by decide +kernel
theorem dX3_lastTouch_15 : decode cX3_lastTouch 15 = .ok (.if_icmp .ge 19, 3) := by decide +kernel
theorem dX3_lastTouch_18 : decode cX3_lastTouch 18 = .ok (.iinc 4 (-1), 3) := by decide +kernel
theorem dX3_lastTouch_21 : decode cX3_lastTouch 21 = .ok (.iload_n 3, 1) := by decide +kernel
theorem dX3_lastTouch_22 : decode cX3_lastTouch 22 = .ok (.aload_n 0, 1) := by decide +kernel
theorem dX3_lastTouch_23 : decode cX3_lastTouch 23 = .ok (.iload_n 1, 1) := by decide +kernel
theorem dX3_lastTouch_24 : decode cX3_lastTouch 24 = .ok (.iload 4, 2) := by decide +kernel
theorem dX3_lastTouch_26 : decode cX3_lastTouch 26 = .ok (.invokevirtual 79, 3) := by decide +kernel
theorem dX3_lastTouch_29 : decode cX3_lastTouch 29 = .ok (.iadd, 1) := by decide +kernel
theorem dX3_lastTouch_30 : decode cX3_lastTouch 30 = .ok (.istore_n 3, 1) := by decide +kernel
theorem dX3_lastTouch_31 : decode cX3_lastTouch 31 = .ok (.goto (-23), 3) := by decide +kernel
theorem dX3_lastTouch_34 : decode cX3_lastTouch 34 = .ok (.iload_n 3, 1) := by decide +kernel
theorem dX3_lastTouch_35 : decode cX3_lastTouch 35 = .ok (.iload_n 2, 1) := by decide +kernel
theorem dX3_lastTouch_36 : decode cX3_lastTouch 36 = .ok (.if_icmp .ne 8, 3) := by decide +kernel
theorem dX3_lastTouch_39 : decode cX3_lastTouch 39 = .ok (.iload 4, 2) := by decide +kernel
theorem dX3_lastTouch_41 : decode cX3_lastTouch 41 = .ok (.goto 5, 3) := by decide +kernel
theorem dX3_lastTouch_44 : decode cX3_lastTouch 44 = .ok (.ldc 100, 2) := by decide +kernel
theorem dX3_lastTouch_46 : decode cX3_lastTouch 46 = .ok (.ireturn, 1) := by decide +kernel
theorem dX3_firstTouch_0 : decode cX3_firstTouch 0 = .ok (.aload_n 0, 1) := by decide +kernel
theorem dX3_firstTouch_1 : decode cX3_firstTouch 1 = .ok (.iload_n 1, 1) := by decide +kernel
theorem dX3_firstTouch_2 : decode cX3_firstTouch 2 = .ok (.iload_n 2, 1) := by decide +kernel
theorem dX3_firstTouch_3 : decode cX3_firstTouch 3 = .ok (.invokevirtual 101, 3) := by decide +kernel
theorem dX3_firstTouch_6 : decode cX3_firstTouch 6 = .ok (.istore_n 3, 1) := by decide +kernel
theorem dX3_firstTouch_7 : decode cX3_firstTouch 7 = .ok (.iload_n 3, 1) := by decide +kernel
theorem dX3_firstTouch_8 : decode cX3_firstTouch 8 = .ok (.ifCond .le 20, 3) := by decide +kernel
theorem dX3_firstTouch_11 : decode cX3_firstTouch 11 = .ok (.aload_n 0, 1) := by decide +kernel
theorem dX3_firstTouch_12 : decode cX3_firstTouch 12 = .ok (.iload_n 1, 1) := by decide +kernel
theorem dX3_firstTouch_13 : decode cX3_firstTouch 13 = .ok (.iload_n 3, 1) := by decide +kernel
theorem dX3_firstTouch_14 : decode cX3_firstTouch 14 = .ok (.iconst 1, 1) := by decide +kernel
theorem dX3_firstTouch_15 : decode cX3_firstTouch 15 = .ok (.isub, 1) := by decide +kernel
theorem dX3_firstTouch_16 : decode cX3_firstTouch 16 = .ok (.invokevirtual 79, 3) := by decide +kernel
theorem dX3_firstTouch_19 : decode cX3_firstTouch 19 = .ok (.ifCond .ne 9, 3) := by decide +kernel
theorem dX3_firstTouch_22 : decode cX3_firstTouch 22 = .ok (.iinc 3 (-1), 3) := by decide +kernel
theorem dX3_firstTouch_25 : decode cX3_firstTouch 25 = .ok (.goto (-18), 3) := by decide +kernel
theorem dX3_firstTouch_28 : decode cX3_firstTouch 28 = .ok (.iload_n 3, 1) := by decide +kernel
theorem dX3_firstTouch_29 : decode cX3_firstTouch 29 = .ok (.ireturn, 1) := by decide +kernel
theorem dX3_suspects_0 : decode cX3_suspects 0 = .ok (.aload_n 0, 1) := by decide +kernel
theorem dX3_suspects_1 : decode cX3_suspects 1 = .ok (.iload_n 1, 1) := by decide +kernel
theorem dX3_suspects_2 : decode cX3_suspects 2 = .ok (.iload_n 2, 1) := by decide +kernel
theorem dX3_suspects_3 : decode cX3_suspects 3 = .ok (.invokevirtual 104, 3) := by decide +kernel
theorem dX3_suspects_6 : decode cX3_suspects 6 = .ok (.istore 4, 2) := by decide +kernel
theorem dX3_suspects_8 : decode cX3_suspects 8 = .ok (.aload_n 0, 1) := by decide +kernel
theorem dX3_suspects_9 : decode cX3_suspects 9 = .ok (.getfield 24, 3) := by decide +kernel
theorem dX3_suspects_12 : decode cX3_suspects 12 = .ok (.ifnull 10, 3) := by decide +kernel
theorem dX3_suspects_15 : decode cX3_suspects 15 = .ok (.iload 4, 2) := by decide +kernel
theorem dX3_suspects_17 : decode cX3_suspects 17 = .ok (.ldc 100, 2) := by decide +kernel
theorem dX3_suspects_19 : decode cX3_suspects 19 = .ok (.if_icmp .ne 6, 3) := by decide +kernel
theorem dX3_suspects_22 : decode cX3_suspects 22 = .ok (.ldc 100, 2) := by decide +kernel
theorem dX3_suspects_24 : decode cX3_suspects 24 = .ok (.ireturn, 1) := by decide +kernel
theorem dX3_suspects_25 : decode cX3_suspects 25 = .ok (.aload_n 0, 1) := by decide +kernel
theorem dX3_suspects_26 : decode cX3_suspects 26 = .ok (.iload_n 1, 1) := by decide +kernel
theorem dX3_suspects_27 : decode cX3_suspects 27 = .ok (.iload_n 2, 1) := by decide +kernel
theorem dX3_suspects_28 : decode cX3_suspects 28 = .ok (.invokevirtual 101, 3) := by decide +kernel
theorem dX3_suspects_31 : decode cX3_suspects 31 = .ok (.istore 5, 2) := by decide +kernel
theorem dX3_suspects_33 : decode cX3_suspects 33 = .ok (.iconst 0, 1) := by decide +kernel
theorem dX3_suspects_34 : decode cX3_suspects 34 = .ok (.istore 6, 2) := by decide +kernel
theorem dX3_suspects_36 : decode cX3_suspects 36 = .ok (.aload_n 0, 1) := by decide +kernel
theorem dX3_suspects_37 : decode cX3_suspects 37 = .ok (.invokevirtual 107, 3) := by decide +kernel
theorem dX3_suspects_40 : decode cX3_suspects 40 = .ok (.istore 7, 2) := by decide +kernel
theorem dX3_suspects_42 : decode cX3_suspects 42 = .ok (.iload 4, 2) := by decide +kernel
theorem dX3_suspects_44 : decode cX3_suspects 44 = .ok (.istore 8, 2) := by decide +kernel
theorem dX3_suspects_46 : decode cX3_suspects 46 = .ok (.iload 8, 2) := by decide +kernel
theorem dX3_suspects_48 : decode cX3_suspects 48 = .ok (.iload 5, 2) := by decide +kernel
theorem dX3_suspects_50 : decode cX3_suspects 50 = .ok (.if_icmp .gt 34, 3) := by decide +kernel
theorem dX3_suspects_53 : decode cX3_suspects 53 = .ok (.aload_n 0, 1) := by decide +kernel
theorem dX3_suspects_54 : decode cX3_suspects 54 = .ok (.getfield 24, 3) := by decide +kernel
theorem dX3_suspects_57 : decode cX3_suspects 57 = .ok (.iload 8, 2) := by decide +kernel
theorem dX3_suspects_59 : decode cX3_suspects 59 = .ok (.invokevirtual 110, 3) := by decide +kernel
theorem dX3_suspects_62 : decode cX3_suspects 62 = .ok (.istore 9, 2) := by decide +kernel
theorem dX3_suspects_64 : decode cX3_suspects 64 = .ok (.iload 6, 2) := by decide +kernel
theorem dX3_suspects_66 : decode cX3_suspects 66 = .ok (.iload 9, 2) := by decide +kernel
theorem dX3_suspects_68 : decode cX3_suspects 68 = .ok (.ior, 1) := by decide +kernel
theorem dX3_suspects_69 : decode cX3_suspects 69 = .ok (.istore 6, 2) := by decide +kernel
theorem dX3_suspects_71 : decode cX3_suspects 71 = .ok (.iload 7, 2) := by decide +kernel
theorem dX3_suspects_73 : decode cX3_suspects 73 = .ok (.iload 9, 2) := by decide +kernel
theorem dX3_suspects_75 : decode cX3_suspects 75 = .ok (.iand, 1) := by decide +kernel
theorem dX3_suspects_76 : decode cX3_suspects 76 = .ok (.istore 7, 2) := by decide +kernel
theorem dX3_suspects_78 : decode cX3_suspects 78 = .ok (.iinc 8 1, 3) := by decide +kernel
theorem dX3_suspects_81 : decode cX3_suspects 81 = .ok (.goto (-35), 3) := by decide +kernel
theorem dX3_suspects_84 : decode cX3_suspects 84 = .ok (.iload_n 3, 1) := by decide +kernel
theorem dX3_suspects_85 : decode cX3_suspects 85 = .ok (.ifCond .eq 8, 3) := by decide +kernel
theorem dX3_suspects_88 : decode cX3_suspects 88 = .ok (.iload 7, 2) := by decide +kernel
theorem dX3_suspects_90 : decode cX3_suspects 90 = .ok (.goto 5, 3) := by decide +kernel
theorem dX3_suspects_93 : decode cX3_suspects 93 = .ok (.iload 6, 2) := by decide +kernel
theorem dX3_suspects_95 : decode cX3_suspects 95 = .ok (.ireturn, 1) := by decide +kernel
theorem dX3_spreadWithout_0 : decode cX3_spreadWithout 0 = .ok (.iconst (-1), 1) := by decide +kernel
theorem dX3_spreadWithout_1 : decode cX3_spreadWithout 1 = .ok (.istore_n 2, 1) := by decide +kernel
theorem dX3_spreadWithout_2 : decode cX3_spreadWithout 2 = .ok (.sipush 10000, 3) := by decide +kernel
theorem dX3_spreadWithout_5 : decode cX3_spreadWithout 5 = .ok (.istore_n 3, 1) := by decide +kernel
theorem dX3_spreadWithout_6 : decode cX3_spreadWithout 6 = .ok (.iconst 0, 1) := by decide +kernel
theorem dX3_spreadWithout_7 : decode cX3_spreadWithout 7 = .ok (.istore 4, 2) := by decide +kernel
theorem dX3_spreadWithout_9 : decode cX3_spreadWithout 9 = .ok (.iload 4, 2) := by decide +kernel
theorem dX3_spreadWithout_11 : decode cX3_spreadWithout 11 = .ok (.aload_n 0, 1) := by decide +kernel
theorem dX3_spreadWithout_12 : decode cX3_spreadWithout 12 = .ok (.invokevirtual 46, 3) := by decide +kernel
theorem dX3_spreadWithout_15 : decode cX3_spreadWithout 15 = .ok (.if_icmp .ge 54, 3) := by decide +kernel
theorem dX3_spreadWithout_18 : decode cX3_spreadWithout 18 = .ok (.aload_n 0, 1) := by decide +kernel
theorem dX3_spreadWithout_19 : decode cX3_spreadWithout 19 = .ok (.iload 4, 2) := by decide +kernel
theorem dX3_spreadWithout_21 : decode cX3_spreadWithout 21 = .ok (.invokevirtual 58, 3) := by decide +kernel
theorem dX3_spreadWithout_24 : decode cX3_spreadWithout 24 = .ok (.ifCond .ne 39, 3) := by decide +kernel
theorem dX3_spreadWithout_27 : decode cX3_spreadWithout 27 = .ok (.iload_n 1, 1) := by decide +kernel
theorem dX3_spreadWithout_28 : decode cX3_spreadWithout 28 = .ok (.iload 4, 2) := by decide +kernel
theorem dX3_spreadWithout_30 : decode cX3_spreadWithout 30 = .ok (.invokestatic 113, 3) := by decide +kernel
theorem dX3_spreadWithout_33 : decode cX3_spreadWithout 33 = .ok (.ifCond .eq 7, 3) := by decide +kernel
theorem dX3_spreadWithout_36 : decode cX3_spreadWithout 36 = .ok (.iconst 0, 1) := by decide +kernel
theorem dX3_spreadWithout_37 : decode cX3_spreadWithout 37 = .ok (.goto 10, 3) := by decide +kernel
theorem dX3_spreadWithout_40 : decode cX3_spreadWithout 40 = .ok (.aload_n 0, 1) := by decide +kernel
theorem dX3_spreadWithout_41 : decode cX3_spreadWithout 41 = .ok (.getfield 9, 3) := by decide +kernel
theorem dX3_spreadWithout_44 : decode cX3_spreadWithout 44 = .ok (.iload 4, 2) := by decide +kernel
theorem dX3_spreadWithout_46 : decode cX3_spreadWithout 46 = .ok (.iaload, 1) := by decide +kernel
theorem dX3_spreadWithout_47 : decode cX3_spreadWithout 47 = .ok (.istore 5, 2) := by decide +kernel
theorem dX3_spreadWithout_49 : decode cX3_spreadWithout 49 = .ok (.iload_n 2, 1) := by decide +kernel
theorem dX3_spreadWithout_50 : decode cX3_spreadWithout 50 = .ok (.iload 5, 2) := by decide +kernel
theorem dX3_spreadWithout_52 : decode cX3_spreadWithout 52 = .ok (.invokestatic 69, 3) := by decide +kernel
theorem dX3_spreadWithout_55 : decode cX3_spreadWithout 55 = .ok (.istore_n 2, 1) := by decide +kernel
theorem dX3_spreadWithout_56 : decode cX3_spreadWithout 56 = .ok (.iload_n 3, 1) := by decide +kernel
theorem dX3_spreadWithout_57 : decode cX3_spreadWithout 57 = .ok (.iload 5, 2) := by decide +kernel
theorem dX3_spreadWithout_59 : decode cX3_spreadWithout 59 = .ok (.invokestatic 117, 3) := by decide +kernel
theorem dX3_spreadWithout_62 : decode cX3_spreadWithout 62 = .ok (.istore_n 3, 1) := by decide +kernel
theorem dX3_spreadWithout_63 : decode cX3_spreadWithout 63 = .ok (.iinc 4 1, 3) := by decide +kernel
theorem dX3_spreadWithout_66 : decode cX3_spreadWithout 66 = .ok (.goto (-57), 3) := by decide +kernel
theorem dX3_spreadWithout_69 : decode cX3_spreadWithout 69 = .ok (.iload_n 2, 1) := by decide +kernel
theorem dX3_spreadWithout_70 : decode cX3_spreadWithout 70 = .ok (.iload_n 3, 1) := by decide +kernel
theorem dX3_spreadWithout_71 : decode cX3_spreadWithout 71 = .ok (.isub, 1) := by decide +kernel
theorem dX3_spreadWithout_72 : decode cX3_spreadWithout 72 = .ok (.ireturn, 1) := by decide +kernel
