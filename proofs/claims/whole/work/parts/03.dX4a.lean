theorem dX4_init_0 : decode cX4_init 0 = .ok (.aload_n 0, 1) := by decide +kernel
theorem dX4_init_1 : decode cX4_init 1 = .ok (.invokespecial 5, 3) := by decide +kernel
theorem dX4_init_4 : decode cX4_init 4 = .ok (.aload_n 0, 1) := by decide +kernel
theorem dX4_init_5 : decode cX4_init 5 = .ok (.iconst 0, 1) := by decide +kernel
theorem dX4_init_6 : decode cX4_init 6 = .ok (.putfield 11, 3) := by decide +kernel
theorem dX4_init_9 : decode cX4_init 9 = .ok (.aload_n 0, 1) := by decide +kernel
theorem dX4_init_10 : decode cX4_init 10 = .ok (.iconst 0, 1) := by decide +kernel
theorem dX4_init_11 : decode cX4_init 11 = .ok (.putfield 15, 3) := by decide +kernel
theorem dX4_init_14 : decode cX4_init 14 = .ok (.aload_n 0, 1) := by decide +kernel
theorem dX4_init_15 : decode cX4_init 15 = .ok (.bipush 13, 2) := by decide +kernel
theorem dX4_init_17 : decode cX4_init 17 = .ok (.newarray .int, 2) := by decide +kernel
theorem dX4_init_19 : decode cX4_init 19 = .ok (.putfield 18, 3) := by decide +kernel
theorem dX4_init_22 : decode cX4_init 22 = .ok (.aload_n 0, 1) := by decide +kernel
theorem dX4_init_23 : decode cX4_init 23 = .ok (.sipush 208, 3) := by decide +kernel
theorem dX4_init_26 : decode cX4_init 26 = .ok (.newarray .int, 2) := by decide +kernel
theorem dX4_init_28 : decode cX4_init 28 = .ok (.putfield 22, 3) := by decide +kernel
theorem dX4_init_31 : decode cX4_init 31 = .ok (.aload_n 0, 1) := by decide +kernel
theorem dX4_init_32 : decode cX4_init 32 = .ok (.iconst 0, 1) := by decide +kernel
theorem dX4_init_33 : decode cX4_init 33 = .ok (.putfield 25, 3) := by decide +kernel
theorem dX4_init_36 : decode cX4_init 36 = .ok (.aload_n 0, 1) := by decide +kernel
theorem dX4_init_37 : decode cX4_init 37 = .ok (.bipush 39, 2) := by decide +kernel
theorem dX4_init_39 : decode cX4_init 39 = .ok (.newarray .int, 2) := by decide +kernel
theorem dX4_init_41 : decode cX4_init 41 = .ok (.putfield 28, 3) := by decide +kernel
theorem dX4_init_44 : decode cX4_init 44 = .ok (.return_, 1) := by decide +kernel
theorem dX4_begin_0 : decode cX4_begin 0 = .ok (.aload_n 0, 1) := by decide +kernel
theorem dX4_begin_1 : decode cX4_begin 1 = .ok (.iconst 0, 1) := by decide +kernel
theorem dX4_begin_2 : decode cX4_begin 2 = .ok (.putfield 11, 3) := by decide +kernel
theorem dX4_begin_5 : decode cX4_begin 5 = .ok (.aload_n 0, 1) := by decide +kernel
theorem dX4_begin_6 : decode cX4_begin 6 = .ok (.iconst 0, 1) := by decide +kernel
theorem dX4_begin_7 : decode cX4_begin 7 = .ok (.putfield 15, 3) := by decide +kernel
theorem dX4_begin_10 : decode cX4_begin 10 = .ok (.iconst 0, 1) := by decide +kernel
theorem dX4_begin_11 : decode cX4_begin 11 = .ok (.istore_n 2, 1) := by decide +kernel
theorem dX4_begin_12 : decode cX4_begin 12 = .ok (.iload_n 2, 1) := by decide +kernel
theorem dX4_begin_13 : decode cX4_begin 13 = .ok (.aload_n 1, 1) := by decide +kernel
theorem dX4_begin_14 : decode cX4_begin 14 = .ok (.getfield 31, 3) := by decide +kernel
theorem dX4_begin_17 : decode cX4_begin 17 = .ok (.if_icmp .ge 24, 3) := by decide +kernel
theorem dX4_begin_20 : decode cX4_begin 20 = .ok (.aload_n 0, 1) := by decide +kernel
theorem dX4_begin_21 : decode cX4_begin 21 = .ok (.getfield 18, 3) := by decide +kernel
theorem dX4_begin_24 : decode cX4_begin 24 = .ok (.iload_n 2, 1) := by decide +kernel
theorem dX4_begin_25 : decode cX4_begin 25 = .ok (.aload_n 1, 1) := by decide +kernel
theorem dX4_begin_26 : decode cX4_begin 26 = .ok (.getfield 36, 3) := by decide +kernel
theorem dX4_begin_29 : decode cX4_begin 29 = .ok (.iload_n 2, 1) := by decide +kernel
theorem dX4_begin_30 : decode cX4_begin 30 = .ok (.aaload, 1) := by decide +kernel
theorem dX4_begin_31 : decode cX4_begin 31 = .ok (.getfield 40, 3) := by decide +kernel
theorem dX4_begin_34 : decode cX4_begin 34 = .ok (.iastore, 1) := by decide +kernel
theorem dX4_begin_35 : decode cX4_begin 35 = .ok (.iinc 2 1, 3) := by decide +kernel
theorem dX4_begin_38 : decode cX4_begin 38 = .ok (.goto (-26), 3) := by decide +kernel
theorem dX4_begin_41 : decode cX4_begin 41 = .ok (.iconst 0, 1) := by decide +kernel
theorem dX4_begin_42 : decode cX4_begin 42 = .ok (.istore_n 2, 1) := by decide +kernel
theorem dX4_begin_43 : decode cX4_begin 43 = .ok (.iload_n 2, 1) := by decide +kernel
theorem dX4_begin_44 : decode cX4_begin 44 = .ok (.aload_n 1, 1) := by decide +kernel
theorem dX4_begin_45 : decode cX4_begin 45 = .ok (.getfield 45, 3) := by decide +kernel
theorem dX4_begin_48 : decode cX4_begin 48 = .ok (.if_icmp .ge 27, 3) := by decide +kernel
theorem dX4_begin_51 : decode cX4_begin 51 = .ok (.aload_n 0, 1) := by decide +kernel
theorem dX4_begin_52 : decode cX4_begin 52 = .ok (.getfield 18, 3) := by decide +kernel
theorem dX4_begin_55 : decode cX4_begin 55 = .ok (.bipush 6, 2) := by decide +kernel
theorem dX4_begin_57 : decode cX4_begin 57 = .ok (.iload_n 2, 1) := by decide +kernel
theorem dX4_begin_58 : decode cX4_begin 58 = .ok (.iadd, 1) := by decide +kernel
theorem dX4_begin_59 : decode cX4_begin 59 = .ok (.aload_n 1, 1) := by decide +kernel
theorem dX4_begin_60 : decode cX4_begin 60 = .ok (.getfield 48, 3) := by decide +kernel
theorem dX4_begin_63 : decode cX4_begin 63 = .ok (.iload_n 2, 1) := by decide +kernel
theorem dX4_begin_64 : decode cX4_begin 64 = .ok (.aaload, 1) := by decide +kernel
theorem dX4_begin_65 : decode cX4_begin 65 = .ok (.getfield 52, 3) := by decide +kernel
theorem dX4_begin_68 : decode cX4_begin 68 = .ok (.iastore, 1) := by decide +kernel
theorem dX4_begin_69 : decode cX4_begin 69 = .ok (.iinc 2 1, 3) := by decide +kernel
theorem dX4_begin_72 : decode cX4_begin 72 = .ok (.goto (-29), 3) := by decide +kernel
theorem dX4_begin_75 : decode cX4_begin 75 = .ok (.aload_n 0, 1) := by decide +kernel
theorem dX4_begin_76 : decode cX4_begin 76 = .ok (.getfield 18, 3) := by decide +kernel
theorem dX4_begin_79 : decode cX4_begin 79 = .ok (.bipush 11, 2) := by decide +kernel
theorem dX4_begin_81 : decode cX4_begin 81 = .ok (.bipush 12, 2) := by decide +kernel
theorem dX4_begin_83 : decode cX4_begin 83 = .ok (.iastore, 1) := by decide +kernel
theorem dX4_begin_84 : decode cX4_begin 84 = .ok (.aload_n 0, 1) := by decide +kernel
theorem dX4_begin_85 : decode cX4_begin 85 = .ok (.getfield 18, 3) := by decide +kernel
theorem dX4_begin_88 : decode cX4_begin 88 = .ok (.bipush 12, 2) := by decide +kernel
theorem dX4_begin_90 : decode cX4_begin 90 = .ok (.iconst 0, 1) := by decide +kernel
theorem dX4_begin_91 : decode cX4_begin 91 = .ok (.iastore, 1) := by decide +kernel
theorem dX4_begin_92 : decode cX4_begin 92 = .ok (.return_, 1) := by decide +kernel
theorem dX4_placeOf_0 : decode cX4_placeOf 0 = .ok (.aload_n 0, 1) := by decide +kernel
theorem dX4_placeOf_1 : decode cX4_placeOf 1 = .ok (.getfield 18, 3) := by decide +kernel
theorem dX4_placeOf_4 : decode cX4_placeOf 4 = .ok (.iload_n 1, 1) := by decide +kernel
theorem dX4_placeOf_5 : decode cX4_placeOf 5 = .ok (.iaload, 1) := by decide +kernel
theorem dX4_placeOf_6 : decode cX4_placeOf 6 = .ok (.ireturn, 1) := by decide +kernel
theorem dX4_placeOfGood_0 : decode cX4_placeOfGood 0 = .ok (.aload_n 0, 1) := by decide +kernel
theorem dX4_placeOfGood_1 : decode cX4_placeOfGood 1 = .ok (.getfield 18, 3) := by decide +kernel
theorem dX4_placeOfGood_4 : decode cX4_placeOfGood 4 = .ok (.bipush 6, 2) := by decide +kernel
theorem dX4_placeOfGood_6 : decode cX4_placeOfGood 6 = .ok (.iload_n 1, 1) := by decide +kernel
theorem dX4_placeOfGood_7 : decode cX4_placeOfGood 7 = .ok (.iadd, 1) := by decide +kernel
theorem dX4_placeOfGood_8 : decode cX4_placeOfGood 8 = .ok (.iaload, 1) := by decide +kernel
theorem dX4_placeOfGood_9 : decode cX4_placeOfGood 9 = .ok (.ireturn, 1) := by decide +kernel
theorem dX4_hour_0 : decode cX4_hour 0 = .ok (.aload_n 0, 1) := by decide +kernel
theorem dX4_hour_1 : decode cX4_hour 1 = .ok (.getfield 18, 3) := by decide +kernel
theorem dX4_hour_4 : decode cX4_hour 4 = .ok (.bipush 11, 2) := by decide +kernel
theorem dX4_hour_6 : decode cX4_hour 6 = .ok (.iaload, 1) := by decide +kernel
theorem dX4_hour_7 : decode cX4_hour 7 = .ok (.ireturn, 1) := by decide +kernel
theorem dX4_dayNumber_0 : decode cX4_dayNumber 0 = .ok (.aload_n 0, 1) := by decide +kernel
theorem dX4_dayNumber_1 : decode cX4_dayNumber 1 = .ok (.getfield 18, 3) := by decide +kernel
theorem dX4_dayNumber_4 : decode cX4_dayNumber 4 = .ok (.bipush 12, 2) := by decide +kernel
theorem dX4_dayNumber_6 : decode cX4_dayNumber 6 = .ok (.iaload, 1) := by decide +kernel
theorem dX4_dayNumber_7 : decode cX4_dayNumber 7 = .ok (.ireturn, 1) := by decide +kernel
theorem dX4_peopleAt_0 : decode cX4_peopleAt 0 = .ok (.iconst 0, 1) := by decide +kernel
theorem dX4_peopleAt_1 : decode cX4_peopleAt 1 = .ok (.istore_n 3, 1) := by decide +kernel
theorem dX4_peopleAt_2 : decode cX4_peopleAt 2 = .ok (.iconst 0, 1) := by decide +kernel
theorem dX4_peopleAt_3 : decode cX4_peopleAt 3 = .ok (.istore 4, 2) := by decide +kernel
theorem dX4_peopleAt_5 : decode cX4_peopleAt 5 = .ok (.iload 4, 2) := by decide +kernel
theorem dX4_peopleAt_7 : decode cX4_peopleAt 7 = .ok (.iload_n 2, 1) := by decide +kernel
theorem dX4_peopleAt_8 : decode cX4_peopleAt 8 = .ok (.if_icmp .ge 26, 3) := by decide +kernel
theorem dX4_peopleAt_11 : decode cX4_peopleAt 11 = .ok (.aload_n 0, 1) := by decide +kernel
theorem dX4_peopleAt_12 : decode cX4_peopleAt 12 = .ok (.iload 4, 2) := by decide +kernel
theorem dX4_peopleAt_14 : decode cX4_peopleAt 14 = .ok (.invokevirtual 57, 3) := by decide +kernel
theorem dX4_peopleAt_17 : decode cX4_peopleAt 17 = .ok (.iload_n 1, 1) := by decide +kernel
theorem dX4_peopleAt_18 : decode cX4_peopleAt 18 = .ok (.if_icmp .ne 10, 3) := by decide +kernel
theorem dX4_peopleAt_21 : decode cX4_peopleAt 21 = .ok (.iload_n 3, 1) := by decide +kernel
theorem dX4_peopleAt_22 : decode cX4_peopleAt 22 = .ok (.iconst 1, 1) := by decide +kernel
theorem dX4_peopleAt_23 : decode cX4_peopleAt 23 = .ok (.iload 4, 2) := by decide +kernel
theorem dX4_peopleAt_25 : decode cX4_peopleAt 25 = .ok (.ishl, 1) := by decide +kernel
theorem dX4_peopleAt_26 : decode cX4_peopleAt 26 = .ok (.ior, 1) := by decide +kernel
theorem dX4_peopleAt_27 : decode cX4_peopleAt 27 = .ok (.istore_n 3, 1) := by decide +kernel
theorem dX4_peopleAt_28 : decode cX4_peopleAt 28 = .ok (.iinc 4 1, 3) := by decide +kernel
theorem dX4_peopleAt_31 : decode cX4_peopleAt 31 = .ok (.goto (-26), 3) := by decide +kernel
theorem dX4_peopleAt_34 : decode cX4_peopleAt 34 = .ok (.iload_n 3, 1) := by decide +kernel
theorem dX4_peopleAt_35 : decode cX4_peopleAt 35 = .ok (.ireturn, 1) := by decide +kernel
theorem dX4_goodsAt_0 : decode cX4_goodsAt 0 = .ok (.iconst 0, 1) := by decide +kernel
theorem dX4_goodsAt_1 : decode cX4_goodsAt 1 = .ok (.istore_n 3, 1) := by decide +kernel
theorem dX4_goodsAt_2 : decode cX4_goodsAt 2 = .ok (.iconst 0, 1) := by decide +kernel
theorem dX4_goodsAt_3 : decode cX4_goodsAt 3 = .ok (.istore 4, 2) := by decide +kernel
theorem dX4_goodsAt_5 : decode cX4_goodsAt 5 = .ok (.iload 4, 2) := by decide +kernel
theorem dX4_goodsAt_7 : decode cX4_goodsAt 7 = .ok (.iload_n 2, 1) := by decide +kernel
theorem dX4_goodsAt_8 : decode cX4_goodsAt 8 = .ok (.if_icmp .ge 26, 3) := by decide +kernel
theorem dX4_goodsAt_11 : decode cX4_goodsAt 11 = .ok (.aload_n 0, 1) := by decide +kernel
theorem dX4_goodsAt_12 : decode cX4_goodsAt 12 = .ok (.iload 4, 2) := by decide +kernel
theorem dX4_goodsAt_14 : decode cX4_goodsAt 14 = .ok (.invokevirtual 61, 3) := by decide +kernel
theorem dX4_goodsAt_17 : decode cX4_goodsAt 17 = .ok (.iload_n 1, 1) := by decide +kernel
theorem dX4_goodsAt_18 : decode cX4_goodsAt 18 = .ok (.if_icmp .ne 10, 3) := by decide +kernel
theorem dX4_goodsAt_21 : decode cX4_goodsAt 21 = .ok (.iload_n 3, 1) := by decide +kernel
theorem dX4_goodsAt_22 : decode cX4_goodsAt 22 = .ok (.iconst 1, 1) := by decide +kernel
theorem dX4_goodsAt_23 : decode cX4_goodsAt 23 = .ok (.iload 4, 2) := by decide +kernel
theorem dX4_goodsAt_25 : decode cX4_goodsAt 25 = .ok (.ishl, 1) := by decide +kernel
theorem dX4_goodsAt_26 : decode cX4_goodsAt 26 = .ok (.ior, 1) := by decide +kernel
theorem dX4_goodsAt_27 : decode cX4_goodsAt 27 = .ok (.istore_n 3, 1) := by decide +kernel
theorem dX4_goodsAt_28 : decode cX4_goodsAt 28 = .ok (.iinc 4 1, 3) := by decide +kernel
theorem dX4_goodsAt_31 : decode cX4_goodsAt 31 = .ok (.goto (-26), 3) := by decide +kernel
theorem dX4_goodsAt_34 : decode cX4_goodsAt 34 = .ok (.iload_n 3, 1) := by decide +kernel
theorem dX4_goodsAt_35 : decode cX4_goodsAt 35 = .ok (.ireturn, 1) := by decide +kernel
theorem dX4_movePerson_0 : decode cX4_movePerson 0 = .ok (.aload_n 0, 1) := by decide +kernel
theorem dX4_movePerson_1 : decode cX4_movePerson 1 = .ok (.getfield 18, 3) := by decide +kernel
theorem dX4_movePerson_4 : decode cX4_movePerson 4 = .ok (.iload_n 1, 1) := by decide +kernel
theorem dX4_movePerson_5 : decode cX4_movePerson 5 = .ok (.iload_n 2, 1) := by decide +kernel
theorem dX4_movePerson_6 : decode cX4_movePerson 6 = .ok (.iastore, 1) := by decide +kernel
theorem dX4_movePerson_7 : decode cX4_movePerson 7 = .ok (.return_, 1) := by decide +kernel
theorem dX4_moveGood_0 : decode cX4_moveGood 0 = .ok (.aload_n 0, 1) := by decide +kernel
theorem dX4_moveGood_1 : decode cX4_moveGood 1 = .ok (.getfield 18, 3) := by decide +kernel
theorem dX4_moveGood_4 : decode cX4_moveGood 4 = .ok (.bipush 6, 2) := by decide +kernel
theorem dX4_moveGood_6 : decode cX4_moveGood 6 = .ok (.iload_n 1, 1) := by decide +kernel
theorem dX4_moveGood_7 : decode cX4_moveGood 7 = .ok (.iadd, 1) := by decide +kernel
theorem dX4_moveGood_8 : decode cX4_moveGood 8 = .ok (.iload_n 2, 1) := by decide +kernel
theorem dX4_moveGood_9 : decode cX4_moveGood 9 = .ok (.iastore, 1) := by decide +kernel
theorem dX4_moveGood_10 : decode cX4_moveGood 10 = .ok (.return_, 1) := by decide +kernel
theorem dX4_passHours_0 : decode cX4_passHours 0 = .ok (.aload_n 0, 1) := by decide +kernel
theorem dX4_passHours_1 : decode cX4_passHours 1 = .ok (.getfield 18, 3) := by decide +kernel
theorem dX4_passHours_4 : decode cX4_passHours 4 = .ok (.bipush 11, 2) := by decide +kernel
theorem dX4_passHours_6 : decode cX4_passHours 6 = .ok (.iaload, 1) := by decide +kernel
theorem dX4_passHours_7 : decode cX4_passHours 7 = .ok (.iload_n 1, 1) := by decide +kernel
theorem dX4_passHours_8 : decode cX4_passHours 8 = .ok (.iadd, 1) := by decide +kernel
theorem dX4_passHours_9 : decode cX4_passHours 9 = .ok (.istore_n 2, 1) := by decide +kernel
theorem dX4_passHours_10 : decode cX4_passHours 10 = .ok (.aload_n 0, 1) := by decide +kernel
theorem dX4_passHours_11 : decode cX4_passHours 11 = .ok (.getfield 18, 3) := by decide +kernel
theorem dX4_passHours_14 : decode cX4_passHours 14 = .ok (.bipush 12, 2) := by decide +kernel
theorem dX4_passHours_16 : decode cX4_passHours 16 = .ok (.dup2, 1) := by decide +kernel
theorem dX4_passHours_17 : decode cX4_passHours 17 = .ok (.iaload, 1) := by decide +kernel
theorem dX4_passHours_18 : decode cX4_passHours 18 = .ok (.iload_n 2, 1) := by decide +kernel
theorem dX4_passHours_19 : decode cX4_passHours 19 = .ok (.bipush 24, 2) := by decide +kernel
theorem dX4_passHours_21 : decode cX4_passHours 21 = .ok (.idiv, 1) := by decide +kernel
theorem dX4_passHours_22 : decode cX4_passHours 22 = .ok (.iadd, 1) := by decide +kernel
theorem dX4_passHours_23 : decode cX4_passHours 23 = .ok (.iastore, 1) := by decide +kernel
theorem dX4_passHours_24 : decode cX4_passHours 24 = .ok (.aload_n 0, 1) := by decide +kernel
theorem dX4_passHours_25 : decode cX4_passHours 25 = .ok (.getfield 18, 3) := by decide +kernel
theorem dX4_passHours_28 : decode cX4_passHours 28 = .ok (.bipush 11, 2) := by decide +kernel
theorem dX4_passHours_30 : decode cX4_passHours 30 = .ok (.iload_n 2, 1) := by decide +kernel
theorem dX4_passHours_31 : decode cX4_passHours 31 = .ok (.bipush 24, 2) := by decide +kernel
theorem dX4_passHours_33 : decode cX4_passHours 33 = .ok (.irem, 1) := by decide +kernel
theorem dX4_passHours_34 : decode cX4_passHours 34 = .ok (.iastore, 1) := by decide +kernel
theorem dX4_passHours_35 : decode cX4_passHours 35 = .ok (.return_, 1) := by decide +kernel
theorem dX4_keep_0 : decode cX4_keep 0 = .ok (.aload_n 0, 1) := by decide +kernel
theorem dX4_keep_1 : decode cX4_keep 1 = .ok (.aload_n 0, 1) := by decide +kernel
theorem dX4_keep_2 : decode cX4_keep 2 = .ok (.getfield 25, 3) := by decide +kernel
theorem dX4_keep_5 : decode cX4_keep 5 = .ok (.iconst 1, 1) := by decide +kernel
theorem dX4_keep_6 : decode cX4_keep 6 = .ok (.iadd, 1) := by decide +kernel
theorem dX4_keep_7 : decode cX4_keep 7 = .ok (.bipush 16, 2) := by decide +kernel
theorem dX4_keep_9 : decode cX4_keep 9 = .ok (.irem, 1) := by decide +kernel
theorem dX4_keep_10 : decode cX4_keep 10 = .ok (.putfield 25, 3) := by decide +kernel
theorem dX4_keep_13 : decode cX4_keep 13 = .ok (.aload_n 0, 1) := by decide +kernel
theorem dX4_keep_14 : decode cX4_keep 14 = .ok (.getfield 18, 3) := by decide +kernel
theorem dX4_keep_17 : decode cX4_keep 17 = .ok (.iconst 0, 1) := by decide +kernel
theorem dX4_keep_18 : decode cX4_keep 18 = .ok (.aload_n 0, 1) := by decide +kernel
theorem dX4_keep_19 : decode cX4_keep 19 = .ok (.getfield 22, 3) := by decide +kernel
theorem dX4_keep_22 : decode cX4_keep 22 = .ok (.aload_n 0, 1) := by decide +kernel
theorem dX4_keep_23 : decode cX4_keep 23 = .ok (.getfield 25, 3) := by decide +kernel
theorem dX4_keep_26 : decode cX4_keep 26 = .ok (.bipush 13, 2) := by decide +kernel
theorem dX4_keep_28 : decode cX4_keep 28 = .ok (.imul, 1) := by decide +kernel
theorem dX4_keep_29 : decode cX4_keep 29 = .ok (.bipush 13, 2) := by decide +kernel
theorem dX4_keep_31 : decode cX4_keep 31 = .ok (.invokestatic 64, 3) := by decide +kernel
theorem dX4_keep_34 : decode cX4_keep 34 = .ok (.aload_n 0, 1) := by decide +kernel
theorem dX4_keep_35 : decode cX4_keep 35 = .ok (.aload_n 0, 1) := by decide +kernel
theorem dX4_keep_36 : decode cX4_keep 36 = .ok (.getfield 11, 3) := by decide +kernel
theorem dX4_keep_39 : decode cX4_keep 39 = .ok (.iconst 1, 1) := by decide +kernel
theorem dX4_keep_40 : decode cX4_keep 40 = .ok (.iadd, 1) := by decide +kernel
theorem dX4_keep_41 : decode cX4_keep 41 = .ok (.bipush 16, 2) := by decide +kernel
theorem dX4_keep_43 : decode cX4_keep 43 = .ok (.invokestatic 70, 3) := by decide +kernel
theorem dX4_keep_46 : decode cX4_keep 46 = .ok (.putfield 11, 3) := by decide +kernel
theorem dX4_keep_49 : decode cX4_keep 49 = .ok (.return_, 1) := by decide +kernel
theorem dX4_takeBack_0 : decode cX4_takeBack 0 = .ok (.aload_n 0, 1) := by decide +kernel
theorem dX4_takeBack_1 : decode cX4_takeBack 1 = .ok (.getfield 11, 3) := by decide +kernel
theorem dX4_takeBack_4 : decode cX4_takeBack 4 = .ok (.ifCond .ne 5, 3) := by decide +kernel
theorem dX4_takeBack_7 : decode cX4_takeBack 7 = .ok (.iconst 0, 1) := by decide +kernel
theorem dX4_takeBack_8 : decode cX4_takeBack 8 = .ok (.ireturn, 1) := by decide +kernel
theorem dX4_takeBack_9 : decode cX4_takeBack 9 = .ok (.aload_n 0, 1) := by decide +kernel
theorem dX4_takeBack_10 : decode cX4_takeBack 10 = .ok (.getfield 22, 3) := by decide +kernel
theorem dX4_takeBack_13 : decode cX4_takeBack 13 = .ok (.aload_n 0, 1) := by decide +kernel
theorem dX4_takeBack_14 : decode cX4_takeBack 14 = .ok (.getfield 25, 3) := by decide +kernel
theorem dX4_takeBack_17 : decode cX4_takeBack 17 = .ok (.bipush 13, 2) := by decide +kernel
theorem dX4_takeBack_19 : decode cX4_takeBack 19 = .ok (.imul, 1) := by decide +kernel
theorem dX4_takeBack_20 : decode cX4_takeBack 20 = .ok (.aload_n 0, 1) := by decide +kernel
theorem dX4_takeBack_21 : decode cX4_takeBack 21 = .ok (.getfield 18, 3) := by decide +kernel
theorem dX4_takeBack_24 : decode cX4_takeBack 24 = .ok (.iconst 0, 1) := by decide +kernel
theorem dX4_takeBack_25 : decode cX4_takeBack 25 = .ok (.bipush 13, 2) := by decide +kernel
theorem dX4_takeBack_27 : decode cX4_takeBack 27 = .ok (.invokestatic 64, 3) := by decide +kernel
theorem dX4_takeBack_30 : decode cX4_takeBack 30 = .ok (.aload_n 0, 1) := by decide +kernel
theorem dX4_takeBack_31 : decode cX4_takeBack 31 = .ok (.aload_n 0, 1) := by decide +kernel
theorem dX4_takeBack_32 : decode cX4_takeBack 32 = .ok (.getfield 25, 3) := by decide +kernel
theorem dX4_takeBack_35 : decode cX4_takeBack 35 = .ok (.bipush 16, 2) := by decide +kernel
theorem dX4_takeBack_37 : decode cX4_takeBack 37 = .ok (.iadd, 1) := by decide +kernel
theorem dX4_takeBack_38 : decode cX4_takeBack 38 = .ok (.iconst 1, 1) := by decide +kernel
theorem dX4_takeBack_39 : decode cX4_takeBack 39 = .ok (.isub, 1) := by decide +kernel
theorem dX4_takeBack_40 : decode cX4_takeBack 40 = .ok (.bipush 16, 2) := by decide +kernel
theorem dX4_takeBack_42 : decode cX4_takeBack 42 = .ok (.irem, 1) := by decide +kernel
theorem dX4_takeBack_43 : decode cX4_takeBack 43 = .ok (.putfield 25, 3) := by decide +kernel
theorem dX4_takeBack_46 : decode cX4_takeBack 46 = .ok (.aload_n 0, 1) := by decide +kernel
theorem dX4_takeBack_47 : decode cX4_takeBack 47 = .ok (.dup, 1) := by decide +kernel
theorem dX4_takeBack_48 : decode cX4_takeBack 48 = .ok (.getfield 11, 3) := by decide +kernel
theorem dX4_takeBack_51 : decode cX4_takeBack 51 = .ok (.iconst 1, 1) := by decide +kernel
theorem dX4_takeBack_52 : decode cX4_takeBack 52 = .ok (.isub, 1) := by decide +kernel
theorem dX4_takeBack_53 : decode cX4_takeBack 53 = .ok (.putfield 11, 3) := by decide +kernel
theorem dX4_takeBack_56 : decode cX4_takeBack 56 = .ok (.iconst 1, 1) := by decide +kernel
theorem dX4_takeBack_57 : decode cX4_takeBack 57 = .ok (.ireturn, 1) := by decide +kernel
theorem dX4_draw_0 : decode cX4_draw 0 = .ok (.aload_n 0, 1) := by decide +kernel
theorem dX4_draw_1 : decode cX4_draw 1 = .ok (.getfield 18, 3) := by decide +kernel
theorem dX4_draw_4 : decode cX4_draw 4 = .ok (.iconst 0, 1) := by decide +kernel
theorem dX4_draw_5 : decode cX4_draw 5 = .ok (.aload_n 0, 1) := by decide +kernel
theorem dX4_draw_6 : decode cX4_draw 6 = .ok (.getfield 28, 3) := by decide +kernel
theorem dX4_draw_9 : decode cX4_draw 9 = .ok (.aload_n 0, 1) := by decide +kernel
theorem dX4_draw_10 : decode cX4_draw 10 = .ok (.getfield 15, 3) := by decide +kernel
theorem dX4_draw_13 : decode cX4_draw 13 = .ok (.bipush 13, 2) := by decide +kernel
theorem dX4_draw_15 : decode cX4_draw 15 = .ok (.imul, 1) := by decide +kernel
theorem dX4_draw_16 : decode cX4_draw 16 = .ok (.bipush 13, 2) := by decide +kernel
theorem dX4_draw_18 : decode cX4_draw 18 = .ok (.invokestatic 64, 3) := by decide +kernel
theorem dX4_draw_21 : decode cX4_draw 21 = .ok (.aload_n 0, 1) := by decide +kernel
theorem dX4_draw_22 : decode cX4_draw 22 = .ok (.dup, 1) := by decide +kernel
theorem dX4_draw_23 : decode cX4_draw 23 = .ok (.getfield 15, 3) := by decide +kernel
theorem dX4_draw_26 : decode cX4_draw 26 = .ok (.iconst 1, 1) := by decide +kernel
theorem dX4_draw_27 : decode cX4_draw 27 = .ok (.iadd, 1) := by decide +kernel
theorem dX4_draw_28 : decode cX4_draw 28 = .ok (.putfield 15, 3) := by decide +kernel
theorem dX4_draw_31 : decode cX4_draw 31 = .ok (.aload_n 0, 1) := by decide +kernel
theorem dX4_draw_32 : decode cX4_draw 32 = .ok (.getfield 15, 3) := by decide +kernel
theorem dX4_draw_35 : decode cX4_draw 35 = .ok (.iconst 1, 1) := by decide +kernel
theorem dX4_draw_36 : decode cX4_draw 36 = .ok (.isub, 1) := by decide +kernel
theorem dX4_draw_37 : decode cX4_draw 37 = .ok (.ireturn, 1) := by decide +kernel
theorem dX4_returnTo_0 : decode cX4_returnTo 0 = .ok (.iload_n 1, 1) := by decide +kernel
theorem dX4_returnTo_1 : decode cX4_returnTo 1 = .ok (.ifCond .lt 11, 3) := by decide +kernel
theorem dX4_returnTo_4 : decode cX4_returnTo 4 = .ok (.iload_n 1, 1) := by decide +kernel
theorem dX4_returnTo_5 : decode cX4_returnTo 5 = .ok (.aload_n 0, 1) := by decide +kernel
theorem dX4_returnTo_6 : decode cX4_returnTo 6 = .ok (.getfield 15, 3) := by decide +kernel
theorem dX4_returnTo_9 : decode cX4_returnTo 9 = .ok (.if_icmp .lt 5, 3) := by decide +kernel
theorem dX4_returnTo_12 : decode cX4_returnTo 12 = .ok (.iconst 0, 1) := by decide +kernel
theorem dX4_returnTo_13 : decode cX4_returnTo 13 = .ok (.ireturn, 1) := by decide +kernel
theorem dX4_returnTo_14 : decode cX4_returnTo 14 = .ok (.aload_n 0, 1) := by decide +kernel
theorem dX4_returnTo_15 : decode cX4_returnTo 15 = .ok (.getfield 28, 3) := by decide +kernel
theorem dX4_returnTo_18 : decode cX4_returnTo 18 = .ok (.iload_n 1, 1) := by decide +kernel
theorem dX4_returnTo_19 : decode cX4_returnTo 19 = .ok (.bipush 13, 2) := by decide +kernel
theorem dX4_returnTo_21 : decode cX4_returnTo 21 = .ok (.imul, 1) := by decide +kernel
theorem dX4_returnTo_22 : decode cX4_returnTo 22 = .ok (.aload_n 0, 1) := by decide +kernel
theorem dX4_returnTo_23 : decode cX4_returnTo 23 = .ok (.getfield 18, 3) := by decide +kernel
theorem dX4_returnTo_26 : decode cX4_returnTo 26 = .ok (.iconst 0, 1) := by decide +kernel
theorem dX4_returnTo_27 : decode cX4_returnTo 27 = .ok (.bipush 13, 2) := by decide +kernel
theorem dX4_returnTo_29 : decode cX4_returnTo 29 = .ok (.invokestatic 64, 3) := by decide +kernel
theorem dX4_returnTo_32 : decode cX4_returnTo 32 = .ok (.aload_n 0, 1) := by decide +kernel
theorem dX4_returnTo_33 : decode cX4_returnTo 33 = .ok (.iconst 0, 1) := by decide +kernel
theorem dX4_returnTo_34 : decode cX4_returnTo 34 = .ok (.putfield 11, 3) := by decide +kernel
theorem dX4_returnTo_37 : decode cX4_returnTo 37 = .ok (.iconst 1, 1) := by decide +kernel
theorem dX4_returnTo_38 : decode cX4_returnTo 38 = .ok (.ireturn, 1) := by decide +kernel
