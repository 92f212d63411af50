theorem dX8_init_0 : decode cX8_init 0 = .ok (.aload_n 0, 1) := by decide +kernel
theorem dX8_init_1 : decode cX8_init 1 = .ok (.invokespecial 3, 3) := by decide +kernel
theorem dX8_init_4 : decode cX8_init 4 = .ok (.aload_n 0, 1) := by decide +kernel
theorem dX8_init_5 : decode cX8_init 5 = .ok (.bipush 36, 2) := by decide +kernel
theorem dX8_init_7 : decode cX8_init 7 = .ok (.newarray .int, 2) := by decide +kernel
theorem dX8_init_9 : decode cX8_init 9 = .ok (.putfield 9, 3) := by decide +kernel
theorem dX8_init_12 : decode cX8_init 12 = .ok (.aload_n 0, 1) := by decide +kernel
theorem dX8_init_13 : decode cX8_init 13 = .ok (.bipush 6, 2) := by decide +kernel
theorem dX8_init_15 : decode cX8_init 15 = .ok (.newarray .int, 2) := by decide +kernel
theorem dX8_init_17 : decode cX8_init 17 = .ok (.putfield 15, 3) := by decide +kernel
theorem dX8_init_20 : decode cX8_init 20 = .ok (.return_, 1) := by decide +kernel
theorem dX8_gain_0 : decode cX8_gain 0 = .ok (.iconst 0, 1) := by decide +kernel
theorem dX8_gain_1 : decode cX8_gain 1 = .ok (.istore_n 3, 1) := by decide +kernel
theorem dX8_gain_2 : decode cX8_gain 2 = .ok (.iconst 0, 1) := by decide +kernel
theorem dX8_gain_3 : decode cX8_gain 3 = .ok (.istore 4, 2) := by decide +kernel
theorem dX8_gain_5 : decode cX8_gain 5 = .ok (.iconst 0, 1) := by decide +kernel
theorem dX8_gain_6 : decode cX8_gain 6 = .ok (.istore 5, 2) := by decide +kernel
theorem dX8_gain_8 : decode cX8_gain 8 = .ok (.iload 5, 2) := by decide +kernel
theorem dX8_gain_10 : decode cX8_gain 10 = .ok (.aload_n 0, 1) := by decide +kernel
theorem dX8_gain_11 : decode cX8_gain 11 = .ok (.getfield 18, 3) := by decide +kernel
theorem dX8_gain_14 : decode cX8_gain 14 = .ok (.if_icmp .ge 70, 3) := by decide +kernel
theorem dX8_gain_17 : decode cX8_gain 17 = .ok (.aload_n 0, 1) := by decide +kernel
theorem dX8_gain_18 : decode cX8_gain 18 = .ok (.getfield 24, 3) := by decide +kernel
theorem dX8_gain_21 : decode cX8_gain 21 = .ok (.iload 5, 2) := by decide +kernel
theorem dX8_gain_23 : decode cX8_gain 23 = .ok (.aaload, 1) := by decide +kernel
theorem dX8_gain_24 : decode cX8_gain 24 = .ok (.bipush 10, 2) := by decide +kernel
theorem dX8_gain_26 : decode cX8_gain 26 = .ok (.bipush 10, 2) := by decide +kernel
theorem dX8_gain_28 : decode cX8_gain 28 = .ok (.iload_n 1, 1) := by decide +kernel
theorem dX8_gain_29 : decode cX8_gain 29 = .ok (.imul, 1) := by decide +kernel
theorem dX8_gain_30 : decode cX8_gain 30 = .ok (.iadd, 1) := by decide +kernel
theorem dX8_gain_31 : decode cX8_gain 31 = .ok (.invokevirtual 28, 3) := by decide +kernel
theorem dX8_gain_34 : decode cX8_gain 34 = .ok (.istore 6, 2) := by decide +kernel
theorem dX8_gain_36 : decode cX8_gain 36 = .ok (.aload_n 0, 1) := by decide +kernel
theorem dX8_gain_37 : decode cX8_gain 37 = .ok (.getfield 24, 3) := by decide +kernel
theorem dX8_gain_40 : decode cX8_gain 40 = .ok (.iload 5, 2) := by decide +kernel
theorem dX8_gain_42 : decode cX8_gain 42 = .ok (.aaload, 1) := by decide +kernel
theorem dX8_gain_43 : decode cX8_gain 43 = .ok (.bipush 10, 2) := by decide +kernel
theorem dX8_gain_45 : decode cX8_gain 45 = .ok (.bipush 10, 2) := by decide +kernel
theorem dX8_gain_47 : decode cX8_gain 47 = .ok (.iload_n 2, 1) := by decide +kernel
theorem dX8_gain_48 : decode cX8_gain 48 = .ok (.imul, 1) := by decide +kernel
theorem dX8_gain_49 : decode cX8_gain 49 = .ok (.iadd, 1) := by decide +kernel
theorem dX8_gain_50 : decode cX8_gain 50 = .ok (.invokevirtual 28, 3) := by decide +kernel
theorem dX8_gain_53 : decode cX8_gain 53 = .ok (.istore 7, 2) := by decide +kernel
theorem dX8_gain_55 : decode cX8_gain 55 = .ok (.iload 6, 2) := by decide +kernel
theorem dX8_gain_57 : decode cX8_gain 57 = .ok (.iload 7, 2) := by decide +kernel
theorem dX8_gain_59 : decode cX8_gain 59 = .ok (.if_icmp .le 9, 3) := by decide +kernel
theorem dX8_gain_62 : decode cX8_gain 62 = .ok (.iinc 3 1, 3) := by decide +kernel
theorem dX8_gain_65 : decode cX8_gain 65 = .ok (.goto 13, 3) := by decide +kernel
theorem dX8_gain_68 : decode cX8_gain 68 = .ok (.iload 6, 2) := by decide +kernel
theorem dX8_gain_70 : decode cX8_gain 70 = .ok (.iload 7, 2) := by decide +kernel
theorem dX8_gain_72 : decode cX8_gain 72 = .ok (.if_icmp .ne 6, 3) := by decide +kernel
theorem dX8_gain_75 : decode cX8_gain 75 = .ok (.iinc 4 1, 3) := by decide +kernel
theorem dX8_gain_78 : decode cX8_gain 78 = .ok (.iinc 5 1, 3) := by decide +kernel
theorem dX8_gain_81 : decode cX8_gain 81 = .ok (.goto (-73), 3) := by decide +kernel
theorem dX8_gain_84 : decode cX8_gain 84 = .ok (.iconst 3, 1) := by decide +kernel
theorem dX8_gain_85 : decode cX8_gain 85 = .ok (.iload_n 3, 1) := by decide +kernel
theorem dX8_gain_86 : decode cX8_gain 86 = .ok (.iload 4, 2) := by decide +kernel
theorem dX8_gain_88 : decode cX8_gain 88 = .ok (.iconst 2, 1) := by decide +kernel
theorem dX8_gain_89 : decode cX8_gain 89 = .ok (.idiv, 1) := by decide +kernel
theorem dX8_gain_90 : decode cX8_gain 90 = .ok (.iadd, 1) := by decide +kernel
theorem dX8_gain_91 : decode cX8_gain 91 = .ok (.imul, 1) := by decide +kernel
theorem dX8_gain_92 : decode cX8_gain 92 = .ok (.iconst 2, 1) := by decide +kernel
theorem dX8_gain_93 : decode cX8_gain 93 = .ok (.iload_n 1, 1) := by decide +kernel
theorem dX8_gain_94 : decode cX8_gain 94 = .ok (.imul, 1) := by decide +kernel
theorem dX8_gain_95 : decode cX8_gain 95 = .ok (.iadd, 1) := by decide +kernel
theorem dX8_gain_96 : decode cX8_gain 96 = .ok (.ireturn, 1) := by decide +kernel
theorem dX8_weigh_0 : decode cX8_weigh 0 = .ok (.aload_n 0, 1) := by decide +kernel
theorem dX8_weigh_1 : decode cX8_weigh 1 = .ok (.getfield 15, 3) := by decide +kernel
theorem dX8_weigh_4 : decode cX8_weigh 4 = .ok (.iconst 0, 1) := by decide +kernel
theorem dX8_weigh_5 : decode cX8_weigh 5 = .ok (.invokestatic 34, 3) := by decide +kernel
theorem dX8_weigh_8 : decode cX8_weigh 8 = .ok (.iconst 0, 1) := by decide +kernel
theorem dX8_weigh_9 : decode cX8_weigh 9 = .ok (.istore_n 2, 1) := by decide +kernel
theorem dX8_weigh_10 : decode cX8_weigh 10 = .ok (.iload_n 2, 1) := by decide +kernel
theorem dX8_weigh_11 : decode cX8_weigh 11 = .ok (.bipush 6, 2) := by decide +kernel
theorem dX8_weigh_13 : decode cX8_weigh 13 = .ok (.if_icmp .ge 61, 3) := by decide +kernel
theorem dX8_weigh_16 : decode cX8_weigh 16 = .ok (.iconst 0, 1) := by decide +kernel
theorem dX8_weigh_17 : decode cX8_weigh 17 = .ok (.istore_n 3, 1) := by decide +kernel
theorem dX8_weigh_18 : decode cX8_weigh 18 = .ok (.iload_n 3, 1) := by decide +kernel
theorem dX8_weigh_19 : decode cX8_weigh 19 = .ok (.bipush 6, 2) := by decide +kernel
theorem dX8_weigh_21 : decode cX8_weigh 21 = .ok (.if_icmp .ge 47, 3) := by decide +kernel
theorem dX8_weigh_24 : decode cX8_weigh 24 = .ok (.aload_n 1, 1) := by decide +kernel
theorem dX8_weigh_25 : decode cX8_weigh 25 = .ok (.iload_n 2, 1) := by decide +kernel
theorem dX8_weigh_26 : decode cX8_weigh 26 = .ok (.iload_n 3, 1) := by decide +kernel
theorem dX8_weigh_27 : decode cX8_weigh 27 = .ok (.invokestatic 40, 3) := by decide +kernel
theorem dX8_weigh_30 : decode cX8_weigh 30 = .ok (.istore 4, 2) := by decide +kernel
theorem dX8_weigh_32 : decode cX8_weigh 32 = .ok (.aload_n 0, 1) := by decide +kernel
theorem dX8_weigh_33 : decode cX8_weigh 33 = .ok (.getfield 9, 3) := by decide +kernel
theorem dX8_weigh_36 : decode cX8_weigh 36 = .ok (.iload_n 2, 1) := by decide +kernel
theorem dX8_weigh_37 : decode cX8_weigh 37 = .ok (.bipush 6, 2) := by decide +kernel
theorem dX8_weigh_39 : decode cX8_weigh 39 = .ok (.imul, 1) := by decide +kernel
theorem dX8_weigh_40 : decode cX8_weigh 40 = .ok (.iload_n 3, 1) := by decide +kernel
theorem dX8_weigh_41 : decode cX8_weigh 41 = .ok (.iadd, 1) := by decide +kernel
theorem dX8_weigh_42 : decode cX8_weigh 42 = .ok (.iload 4, 2) := by decide +kernel
theorem dX8_weigh_44 : decode cX8_weigh 44 = .ok (.iastore, 1) := by decide +kernel
theorem dX8_weigh_45 : decode cX8_weigh 45 = .ok (.aload_n 0, 1) := by decide +kernel
theorem dX8_weigh_46 : decode cX8_weigh 46 = .ok (.getfield 15, 3) := by decide +kernel
theorem dX8_weigh_49 : decode cX8_weigh 49 = .ok (.iload_n 3, 1) := by decide +kernel
theorem dX8_weigh_50 : decode cX8_weigh 50 = .ok (.aload_n 0, 1) := by decide +kernel
theorem dX8_weigh_51 : decode cX8_weigh 51 = .ok (.getfield 15, 3) := by decide +kernel
theorem dX8_weigh_54 : decode cX8_weigh 54 = .ok (.iload_n 3, 1) := by decide +kernel
theorem dX8_weigh_55 : decode cX8_weigh 55 = .ok (.iaload, 1) := by decide +kernel
theorem dX8_weigh_56 : decode cX8_weigh 56 = .ok (.iload 4, 2) := by decide +kernel
theorem dX8_weigh_58 : decode cX8_weigh 58 = .ok (.invokestatic 44, 3) := by decide +kernel
theorem dX8_weigh_61 : decode cX8_weigh 61 = .ok (.iastore, 1) := by decide +kernel
theorem dX8_weigh_62 : decode cX8_weigh 62 = .ok (.iinc 3 1, 3) := by decide +kernel
theorem dX8_weigh_65 : decode cX8_weigh 65 = .ok (.goto (-47), 3) := by decide +kernel
theorem dX8_weigh_68 : decode cX8_weigh 68 = .ok (.iinc 2 1, 3) := by decide +kernel
theorem dX8_weigh_71 : decode cX8_weigh 71 = .ok (.goto (-61), 3) := by decide +kernel
theorem dX8_weigh_74 : decode cX8_weigh 74 = .ok (.return_, 1) := by decide +kernel
theorem dX8_isRest_0 : decode cX8_isRest 0 = .ok (.aload_n 0, 1) := by decide +kernel
theorem dX8_isRest_1 : decode cX8_isRest 1 = .ok (.getfield 9, 3) := by decide +kernel
theorem dX8_isRest_4 : decode cX8_isRest 4 = .ok (.iload_n 1, 1) := by decide +kernel
theorem dX8_isRest_5 : decode cX8_isRest 5 = .ok (.bipush 6, 2) := by decide +kernel
theorem dX8_isRest_7 : decode cX8_isRest 7 = .ok (.imul, 1) := by decide +kernel
theorem dX8_isRest_8 : decode cX8_isRest 8 = .ok (.iload_n 2, 1) := by decide +kernel
theorem dX8_isRest_9 : decode cX8_isRest 9 = .ok (.iadd, 1) := by decide +kernel
theorem dX8_isRest_10 : decode cX8_isRest 10 = .ok (.iaload, 1) := by decide +kernel
theorem dX8_isRest_11 : decode cX8_isRest 11 = .ok (.aload_n 0, 1) := by decide +kernel
theorem dX8_isRest_12 : decode cX8_isRest 12 = .ok (.getfield 15, 3) := by decide +kernel
theorem dX8_isRest_15 : decode cX8_isRest 15 = .ok (.iload_n 2, 1) := by decide +kernel
theorem dX8_isRest_16 : decode cX8_isRest 16 = .ok (.iaload, 1) := by decide +kernel
theorem dX8_isRest_17 : decode cX8_isRest 17 = .ok (.if_icmp .ne 27, 3) := by decide +kernel
theorem dX8_isRest_20 : decode cX8_isRest 20 = .ok (.aload_n 0, 1) := by decide +kernel
theorem dX8_isRest_21 : decode cX8_isRest 21 = .ok (.getfield 9, 3) := by decide +kernel
theorem dX8_isRest_24 : decode cX8_isRest 24 = .ok (.iload_n 2, 1) := by decide +kernel
theorem dX8_isRest_25 : decode cX8_isRest 25 = .ok (.bipush 6, 2) := by decide +kernel
theorem dX8_isRest_27 : decode cX8_isRest 27 = .ok (.imul, 1) := by decide +kernel
theorem dX8_isRest_28 : decode cX8_isRest 28 = .ok (.iload_n 1, 1) := by decide +kernel
theorem dX8_isRest_29 : decode cX8_isRest 29 = .ok (.iadd, 1) := by decide +kernel
theorem dX8_isRest_30 : decode cX8_isRest 30 = .ok (.iaload, 1) := by decide +kernel
theorem dX8_isRest_31 : decode cX8_isRest 31 = .ok (.aload_n 0, 1) := by decide +kernel
theorem dX8_isRest_32 : decode cX8_isRest 32 = .ok (.getfield 15, 3) := by decide +kernel
theorem dX8_isRest_35 : decode cX8_isRest 35 = .ok (.iload_n 1, 1) := by decide +kernel
theorem dX8_isRest_36 : decode cX8_isRest 36 = .ok (.iaload, 1) := by decide +kernel
theorem dX8_isRest_37 : decode cX8_isRest 37 = .ok (.if_icmp .ne 7, 3) := by decide +kernel
theorem dX8_isRest_40 : decode cX8_isRest 40 = .ok (.iconst 1, 1) := by decide +kernel
theorem dX8_isRest_41 : decode cX8_isRest 41 = .ok (.goto 4, 3) := by decide +kernel
theorem dX8_isRest_44 : decode cX8_isRest 44 = .ok (.iconst 0, 1) := by decide +kernel
theorem dX8_isRest_45 : decode cX8_isRest 45 = .ok (.ireturn, 1) := by decide +kernel
