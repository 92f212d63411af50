theorem dX11_init_0 : decode cX11_init 0 = .ok (.aload_n 0, 1) := by decide +kernel
theorem dX11_init_1 : decode cX11_init 1 = .ok (.invokespecial 3, 3) := by decide +kernel
theorem dX11_init_4 : decode cX11_init 4 = .ok (.aload_n 0, 1) := by decide +kernel
theorem dX11_init_5 : decode cX11_init 5 = .ok (.sipush 1100, 3) := by decide +kernel
theorem dX11_init_8 : decode cX11_init 8 = .ok (.newarray .byte, 2) := by decide +kernel
theorem dX11_init_10 : decode cX11_init 10 = .ok (.putfield 9, 3) := by decide +kernel
theorem dX11_init_13 : decode cX11_init 13 = .ok (.aload_n 0, 1) := by decide +kernel
theorem dX11_init_14 : decode cX11_init 14 = .ok (.iconst 0, 1) := by decide +kernel
theorem dX11_init_15 : decode cX11_init 15 = .ok (.putfield 13, 3) := by decide +kernel
theorem dX11_init_18 : decode cX11_init 18 = .ok (.aload_n 0, 1) := by decide +kernel
theorem dX11_init_19 : decode cX11_init 19 = .ok (.new 17, 3) := by decide +kernel
theorem dX11_init_22 : decode cX11_init 22 = .ok (.dup, 1) := by decide +kernel
theorem dX11_init_23 : decode cX11_init 23 = .ok (.invokespecial 19, 3) := by decide +kernel
theorem dX11_init_26 : decode cX11_init 26 = .ok (.putfield 20, 3) := by decide +kernel
theorem dX11_init_29 : decode cX11_init 29 = .ok (.aload_n 0, 1) := by decide +kernel
theorem dX11_init_30 : decode cX11_init 30 = .ok (.new 17, 3) := by decide +kernel
theorem dX11_init_33 : decode cX11_init 33 = .ok (.dup, 1) := by decide +kernel
theorem dX11_init_34 : decode cX11_init 34 = .ok (.invokespecial 19, 3) := by decide +kernel
theorem dX11_init_37 : decode cX11_init 37 = .ok (.putfield 24, 3) := by decide +kernel
theorem dX11_init_40 : decode cX11_init 40 = .ok (.aload_n 0, 1) := by decide +kernel
theorem dX11_init_41 : decode cX11_init 41 = .ok (.new 27, 3) := by decide +kernel
theorem dX11_init_44 : decode cX11_init 44 = .ok (.dup, 1) := by decide +kernel
theorem dX11_init_45 : decode cX11_init 45 = .ok (.invokespecial 29, 3) := by decide +kernel
theorem dX11_init_48 : decode cX11_init 48 = .ok (.putfield 30, 3) := by decide +kernel
theorem dX11_init_51 : decode cX11_init 51 = .ok (.aload_n 0, 1) := by decide +kernel
theorem dX11_init_52 : decode cX11_init 52 = .ok (.new 34, 3) := by decide +kernel
theorem dX11_init_55 : decode cX11_init 55 = .ok (.dup, 1) := by decide +kernel
theorem dX11_init_56 : decode cX11_init 56 = .ok (.invokespecial 36, 3) := by decide +kernel
theorem dX11_init_59 : decode cX11_init 59 = .ok (.putfield 37, 3) := by decide +kernel
theorem dX11_init_62 : decode cX11_init 62 = .ok (.aload_n 0, 1) := by decide +kernel
theorem dX11_init_63 : decode cX11_init 63 = .ok (.new 41, 3) := by decide +kernel
theorem dX11_init_66 : decode cX11_init 66 = .ok (.dup, 1) := by decide +kernel
theorem dX11_init_67 : decode cX11_init 67 = .ok (.invokespecial 43, 3) := by decide +kernel
theorem dX11_init_70 : decode cX11_init 70 = .ok (.putfield 44, 3) := by decide +kernel
theorem dX11_init_73 : decode cX11_init 73 = .ok (.aload_n 0, 1) := by decide +kernel
theorem dX11_init_74 : decode cX11_init 74 = .ok (.new 48, 3) := by decide +kernel
theorem dX11_init_77 : decode cX11_init 77 = .ok (.dup, 1) := by decide +kernel
theorem dX11_init_78 : decode cX11_init 78 = .ok (.invokespecial 50, 3) := by decide +kernel
theorem dX11_init_81 : decode cX11_init 81 = .ok (.putfield 51, 3) := by decide +kernel
theorem dX11_init_84 : decode cX11_init 84 = .ok (.aload_n 0, 1) := by decide +kernel
theorem dX11_init_85 : decode cX11_init 85 = .ok (.new 55, 3) := by decide +kernel
theorem dX11_init_88 : decode cX11_init 88 = .ok (.dup, 1) := by decide +kernel
theorem dX11_init_89 : decode cX11_init 89 = .ok (.invokespecial 57, 3) := by decide +kernel
theorem dX11_init_92 : decode cX11_init 92 = .ok (.putfield 58, 3) := by decide +kernel
theorem dX11_init_95 : decode cX11_init 95 = .ok (.aload_n 0, 1) := by decide +kernel
theorem dX11_init_96 : decode cX11_init 96 = .ok (.iconst 0, 1) := by decide +kernel
theorem dX11_init_97 : decode cX11_init 97 = .ok (.putfield 62, 3) := by decide +kernel
theorem dX11_init_100 : decode cX11_init 100 = .ok (.aload_n 0, 1) := by decide +kernel
theorem dX11_init_101 : decode cX11_init 101 = .ok (.iconst 0, 1) := by decide +kernel
theorem dX11_init_102 : decode cX11_init 102 = .ok (.putfield 65, 3) := by decide +kernel
theorem dX11_init_105 : decode cX11_init 105 = .ok (.aload_n 0, 1) := by decide +kernel
theorem dX11_init_106 : decode cX11_init 106 = .ok (.iconst 0, 1) := by decide +kernel
theorem dX11_init_107 : decode cX11_init 107 = .ok (.putfield 68, 3) := by decide +kernel
theorem dX11_init_110 : decode cX11_init 110 = .ok (.return_, 1) := by decide +kernel
theorem dX11_feed_0 : decode cX11_feed 0 = .ok (.aload_n 0, 1) := by decide +kernel
theorem dX11_feed_1 : decode cX11_feed 1 = .ok (.getfield 13, 3) := by decide +kernel
theorem dX11_feed_4 : decode cX11_feed 4 = .ok (.bipush 20, 2) := by decide +kernel
theorem dX11_feed_6 : decode cX11_feed 6 = .ok (.iadd, 1) := by decide +kernel
theorem dX11_feed_7 : decode cX11_feed 7 = .ok (.sipush 1100, 3) := by decide +kernel
theorem dX11_feed_10 : decode cX11_feed 10 = .ok (.if_icmp .le 5, 3) := by decide +kernel
theorem dX11_feed_13 : decode cX11_feed 13 = .ok (.iconst (-1), 1) := by decide +kernel
theorem dX11_feed_14 : decode cX11_feed 14 = .ok (.ireturn, 1) := by decide +kernel
theorem dX11_feed_15 : decode cX11_feed 15 = .ok (.aload_n 0, 1) := by decide +kernel
theorem dX11_feed_16 : decode cX11_feed 16 = .ok (.iload_n 1, 1) := by decide +kernel
theorem dX11_feed_17 : decode cX11_feed 17 = .ok (.invokevirtual 71, 3) := by decide +kernel
theorem dX11_feed_20 : decode cX11_feed 20 = .ok (.aload_n 0, 1) := by decide +kernel
theorem dX11_feed_21 : decode cX11_feed 21 = .ok (.iload_n 2, 1) := by decide +kernel
theorem dX11_feed_22 : decode cX11_feed 22 = .ok (.invokevirtual 71, 3) := by decide +kernel
theorem dX11_feed_25 : decode cX11_feed 25 = .ok (.aload_n 0, 1) := by decide +kernel
theorem dX11_feed_26 : decode cX11_feed 26 = .ok (.iload_n 3, 1) := by decide +kernel
theorem dX11_feed_27 : decode cX11_feed 27 = .ok (.invokevirtual 71, 3) := by decide +kernel
theorem dX11_feed_30 : decode cX11_feed 30 = .ok (.aload_n 0, 1) := by decide +kernel
theorem dX11_feed_31 : decode cX11_feed 31 = .ok (.iload 4, 2) := by decide +kernel
theorem dX11_feed_33 : decode cX11_feed 33 = .ok (.invokevirtual 71, 3) := by decide +kernel
theorem dX11_feed_36 : decode cX11_feed 36 = .ok (.aload_n 0, 1) := by decide +kernel
theorem dX11_feed_37 : decode cX11_feed 37 = .ok (.iload 5, 2) := by decide +kernel
theorem dX11_feed_39 : decode cX11_feed 39 = .ok (.invokevirtual 71, 3) := by decide +kernel
theorem dX11_feed_42 : decode cX11_feed 42 = .ok (.aload_n 0, 1) := by decide +kernel
theorem dX11_feed_43 : decode cX11_feed 43 = .ok (.getfield 13, 3) := by decide +kernel
theorem dX11_feed_46 : decode cX11_feed 46 = .ok (.ireturn, 1) := by decide +kernel
theorem dX11_putBytes_0 : decode cX11_putBytes 0 = .ok (.bipush 24, 2) := by decide +kernel
theorem dX11_putBytes_2 : decode cX11_putBytes 2 = .ok (.istore_n 2, 1) := by decide +kernel
theorem dX11_putBytes_3 : decode cX11_putBytes 3 = .ok (.iload_n 2, 1) := by decide +kernel
theorem dX11_putBytes_4 : decode cX11_putBytes 4 = .ok (.ifCond .lt 42, 3) := by decide +kernel
theorem dX11_putBytes_7 : decode cX11_putBytes 7 = .ok (.aload_n 0, 1) := by decide +kernel
theorem dX11_putBytes_8 : decode cX11_putBytes 8 = .ok (.getfield 13, 3) := by decide +kernel
theorem dX11_putBytes_11 : decode cX11_putBytes 11 = .ok (.sipush 1100, 3) := by decide +kernel
theorem dX11_putBytes_14 : decode cX11_putBytes 14 = .ok (.if_icmp .ge 26, 3) := by decide +kernel
theorem dX11_putBytes_17 : decode cX11_putBytes 17 = .ok (.aload_n 0, 1) := by decide +kernel
theorem dX11_putBytes_18 : decode cX11_putBytes 18 = .ok (.getfield 9, 3) := by decide +kernel
theorem dX11_putBytes_21 : decode cX11_putBytes 21 = .ok (.aload_n 0, 1) := by decide +kernel
theorem dX11_putBytes_22 : decode cX11_putBytes 22 = .ok (.getfield 13, 3) := by decide +kernel
theorem dX11_putBytes_25 : decode cX11_putBytes 25 = .ok (.iload_n 1, 1) := by decide +kernel
theorem dX11_putBytes_26 : decode cX11_putBytes 26 = .ok (.iload_n 2, 1) := by decide +kernel
theorem dX11_putBytes_27 : decode cX11_putBytes 27 = .ok (.ishr, 1) := by decide +kernel
theorem dX11_putBytes_28 : decode cX11_putBytes 28 = .ok (.i2b, 1) := by decide +kernel
theorem dX11_putBytes_29 : decode cX11_putBytes 29 = .ok (.bastore, 1) := by decide +kernel
theorem dX11_putBytes_30 : decode cX11_putBytes 30 = .ok (.aload_n 0, 1) := by decide +kernel
theorem dX11_putBytes_31 : decode cX11_putBytes 31 = .ok (.dup, 1) := by decide +kernel
theorem dX11_putBytes_32 : decode cX11_putBytes 32 = .ok (.getfield 13, 3) := by decide +kernel
theorem dX11_putBytes_35 : decode cX11_putBytes 35 = .ok (.iconst 1, 1) := by decide +kernel
theorem dX11_putBytes_36 : decode cX11_putBytes 36 = .ok (.iadd, 1) := by decide +kernel
theorem dX11_putBytes_37 : decode cX11_putBytes 37 = .ok (.putfield 13, 3) := by decide +kernel
theorem dX11_putBytes_40 : decode cX11_putBytes 40 = .ok (.iinc 2 (-8), 3) := by decide +kernel
theorem dX11_putBytes_43 : decode cX11_putBytes 43 = .ok (.goto (-40), 3) := by decide +kernel
theorem dX11_putBytes_46 : decode cX11_putBytes 46 = .ok (.return_, 1) := by decide +kernel
theorem dX11_town_0 : decode cX11_town 0 = .ok (.iload_n 1, 1) := by decide +kernel
theorem dX11_town_1 : decode cX11_town 1 = .ok (.ifCond .lt 11, 3) := by decide +kernel
theorem dX11_town_4 : decode cX11_town 4 = .ok (.iload_n 1, 1) := by decide +kernel
theorem dX11_town_5 : decode cX11_town 5 = .ok (.aload_n 0, 1) := by decide +kernel
theorem dX11_town_6 : decode cX11_town 6 = .ok (.getfield 13, 3) := by decide +kernel
theorem dX11_town_9 : decode cX11_town 9 = .ok (.if_icmp .le 9, 3) := by decide +kernel
theorem dX11_town_12 : decode cX11_town 12 = .ok (.aload_n 0, 1) := by decide +kernel
theorem dX11_town_13 : decode cX11_town 13 = .ok (.iconst 2, 1) := by decide +kernel
theorem dX11_town_14 : decode cX11_town 14 = .ok (.invokevirtual 75, 3) := by decide +kernel
theorem dX11_town_17 : decode cX11_town 17 = .ok (.ireturn, 1) := by decide +kernel
theorem dX11_town_18 : decode cX11_town 18 = .ok (.aload_n 0, 1) := by decide +kernel
theorem dX11_town_19 : decode cX11_town 19 = .ok (.iconst 0, 1) := by decide +kernel
theorem dX11_town_20 : decode cX11_town 20 = .ok (.putfield 13, 3) := by decide +kernel
theorem dX11_town_23 : decode cX11_town 23 = .ok (.aload_n 0, 1) := by decide +kernel
theorem dX11_town_24 : decode cX11_town 24 = .ok (.getfield 30, 3) := by decide +kernel
theorem dX11_town_27 : decode cX11_town 27 = .ok (.aload_n 0, 1) := by decide +kernel
theorem dX11_town_28 : decode cX11_town 28 = .ok (.getfield 9, 3) := by decide +kernel
theorem dX11_town_31 : decode cX11_town 31 = .ok (.iload_n 1, 1) := by decide +kernel
theorem dX11_town_32 : decode cX11_town 32 = .ok (.aload_n 0, 1) := by decide +kernel
theorem dX11_town_33 : decode cX11_town 33 = .ok (.getfield 24, 3) := by decide +kernel
theorem dX11_town_36 : decode cX11_town 36 = .ok (.invokevirtual 79, 3) := by decide +kernel
theorem dX11_town_39 : decode cX11_town 39 = .ok (.ifCond .ne 31, 3) := by decide +kernel
theorem dX11_town_42 : decode cX11_town 42 = .ok (.aload_n 0, 1) := by decide +kernel
theorem dX11_town_43 : decode cX11_town 43 = .ok (.aload_n 0, 1) := by decide +kernel
theorem dX11_town_44 : decode cX11_town 44 = .ok (.getfield 30, 3) := by decide +kernel
theorem dX11_town_47 : decode cX11_town 47 = .ok (.getfield 83, 3) := by decide +kernel
theorem dX11_town_50 : decode cX11_town 50 = .ok (.putfield 65, 3) := by decide +kernel
theorem dX11_town_53 : decode cX11_town 53 = .ok (.aload_n 0, 1) := by decide +kernel
theorem dX11_town_54 : decode cX11_town 54 = .ok (.aload_n 0, 1) := by decide +kernel
theorem dX11_town_55 : decode cX11_town 55 = .ok (.getfield 30, 3) := by decide +kernel
theorem dX11_town_58 : decode cX11_town 58 = .ok (.getfield 86, 3) := by decide +kernel
theorem dX11_town_61 : decode cX11_town 61 = .ok (.putfield 68, 3) := by decide +kernel
theorem dX11_town_64 : decode cX11_town 64 = .ok (.aload_n 0, 1) := by decide +kernel
theorem dX11_town_65 : decode cX11_town 65 = .ok (.iconst 4, 1) := by decide +kernel
theorem dX11_town_66 : decode cX11_town 66 = .ok (.invokevirtual 75, 3) := by decide +kernel
theorem dX11_town_69 : decode cX11_town 69 = .ok (.ireturn, 1) := by decide +kernel
theorem dX11_town_70 : decode cX11_town 70 = .ok (.aload_n 0, 1) := by decide +kernel
theorem dX11_town_71 : decode cX11_town 71 = .ok (.iconst 0, 1) := by decide +kernel
theorem dX11_town_72 : decode cX11_town 72 = .ok (.putfield 65, 3) := by decide +kernel
theorem dX11_town_75 : decode cX11_town 75 = .ok (.aload_n 0, 1) := by decide +kernel
theorem dX11_town_76 : decode cX11_town 76 = .ok (.getfield 24, 3) := by decide +kernel
theorem dX11_town_79 : decode cX11_town 79 = .ok (.astore_n 2, 1) := by decide +kernel
theorem dX11_town_80 : decode cX11_town 80 = .ok (.aload_n 0, 1) := by decide +kernel
theorem dX11_town_81 : decode cX11_town 81 = .ok (.aload_n 0, 1) := by decide +kernel
theorem dX11_town_82 : decode cX11_town 82 = .ok (.getfield 20, 3) := by decide +kernel
theorem dX11_town_85 : decode cX11_town 85 = .ok (.putfield 24, 3) := by decide +kernel
theorem dX11_town_88 : decode cX11_town 88 = .ok (.aload_n 0, 1) := by decide +kernel
theorem dX11_town_89 : decode cX11_town 89 = .ok (.aload_n 2, 1) := by decide +kernel
theorem dX11_town_90 : decode cX11_town 90 = .ok (.putfield 20, 3) := by decide +kernel
theorem dX11_town_93 : decode cX11_town 93 = .ok (.aload_n 0, 1) := by decide +kernel
theorem dX11_town_94 : decode cX11_town 94 = .ok (.getfield 20, 3) := by decide +kernel
theorem dX11_town_97 : decode cX11_town 97 = .ok (.getfield 89, 3) := by decide +kernel
theorem dX11_town_100 : decode cX11_town 100 = .ok (.invokevirtual 93, 3) := by decide +kernel
theorem dX11_town_103 : decode cX11_town 103 = .ok (.aload_n 0, 1) := by decide +kernel
theorem dX11_town_104 : decode cX11_town 104 = .ok (.getfield 37, 3) := by decide +kernel
theorem dX11_town_107 : decode cX11_town 107 = .ok (.aload_n 0, 1) := by decide +kernel
theorem dX11_town_108 : decode cX11_town 108 = .ok (.getfield 20, 3) := by decide +kernel
theorem dX11_town_111 : decode cX11_town 111 = .ok (.invokevirtual 98, 3) := by decide +kernel
theorem dX11_town_114 : decode cX11_town 114 = .ok (.aload_n 0, 1) := by decide +kernel
theorem dX11_town_115 : decode cX11_town 115 = .ok (.aload_n 0, 1) := by decide +kernel
theorem dX11_town_116 : decode cX11_town 116 = .ok (.getfield 20, 3) := by decide +kernel
theorem dX11_town_119 : decode cX11_town 119 = .ok (.getfield 102, 3) := by decide +kernel
theorem dX11_town_122 : decode cX11_town 122 = .ok (.invokevirtual 105, 3) := by decide +kernel
theorem dX11_town_125 : decode cX11_town 125 = .ok (.ireturn, 1) := by decide +kernel
theorem dX11_fault_0 : decode cX11_fault 0 = .ok (.aload_n 0, 1) := by decide +kernel
theorem dX11_fault_1 : decode cX11_fault 1 = .ok (.getfield 65, 3) := by decide +kernel
theorem dX11_fault_4 : decode cX11_fault 4 = .ok (.ireturn, 1) := by decide +kernel
theorem dX11_where_0 : decode cX11_where 0 = .ok (.aload_n 0, 1) := by decide +kernel
theorem dX11_where_1 : decode cX11_where 1 = .ok (.getfield 62, 3) := by decide +kernel
theorem dX11_where_4 : decode cX11_where 4 = .ok (.iconst 4, 1) := by decide +kernel
theorem dX11_where_5 : decode cX11_where 5 = .ok (.if_icmp .ne 10, 3) := by decide +kernel
theorem dX11_where_8 : decode cX11_where 8 = .ok (.aload_n 0, 1) := by decide +kernel
theorem dX11_where_9 : decode cX11_where 9 = .ok (.getfield 68, 3) := by decide +kernel
theorem dX11_where_12 : decode cX11_where 12 = .ok (.goto 4, 3) := by decide +kernel
theorem dX11_where_15 : decode cX11_where 15 = .ok (.iconst (-1), 1) := by decide +kernel
theorem dX11_where_16 : decode cX11_where 16 = .ok (.ireturn, 1) := by decide +kernel
theorem dX11_house_0 : decode cX11_house 0 = .ok (.aload_n 0, 1) := by decide +kernel
theorem dX11_house_1 : decode cX11_house 1 = .ok (.iload_n 1, 1) := by decide +kernel
theorem dX11_house_2 : decode cX11_house 2 = .ok (.invokevirtual 108, 3) := by decide +kernel
theorem dX11_house_5 : decode cX11_house 5 = .ok (.ifCond .eq 12, 3) := by decide +kernel
theorem dX11_house_8 : decode cX11_house 8 = .ok (.iload_n 2, 1) := by decide +kernel
theorem dX11_house_9 : decode cX11_house 9 = .ok (.ifCond .lt 8, 3) := by decide +kernel
theorem dX11_house_12 : decode cX11_house 12 = .ok (.iload_n 2, 1) := by decide +kernel
theorem dX11_house_13 : decode cX11_house 13 = .ok (.iconst 3, 1) := by decide +kernel
theorem dX11_house_14 : decode cX11_house 14 = .ok (.if_icmp .le 9, 3) := by decide +kernel
theorem dX11_house_17 : decode cX11_house 17 = .ok (.aload_n 0, 1) := by decide +kernel
theorem dX11_house_18 : decode cX11_house 18 = .ok (.iconst 1, 1) := by decide +kernel
theorem dX11_house_19 : decode cX11_house 19 = .ok (.invokevirtual 75, 3) := by decide +kernel
theorem dX11_house_22 : decode cX11_house 22 = .ok (.ireturn, 1) := by decide +kernel
theorem dX11_house_23 : decode cX11_house 23 = .ok (.iload_n 2, 1) := by decide +kernel
theorem dX11_house_24 : decode cX11_house 24 = .ok (.ifCond .ne 17, 3) := by decide +kernel
theorem dX11_house_27 : decode cX11_house 27 = .ok (.aload_n 0, 1) := by decide +kernel
theorem dX11_house_28 : decode cX11_house 28 = .ok (.aload_n 0, 1) := by decide +kernel
theorem dX11_house_29 : decode cX11_house 29 = .ok (.getfield 20, 3) := by decide +kernel
theorem dX11_house_32 : decode cX11_house 32 = .ok (.getfield 112, 3) := by decide +kernel
theorem dX11_house_35 : decode cX11_house 35 = .ok (.iload_n 1, 1) := by decide +kernel
theorem dX11_house_36 : decode cX11_house 36 = .ok (.iaload, 1) := by decide +kernel
theorem dX11_house_37 : decode cX11_house 37 = .ok (.invokevirtual 105, 3) := by decide +kernel
theorem dX11_house_40 : decode cX11_house 40 = .ok (.ireturn, 1) := by decide +kernel
theorem dX11_house_41 : decode cX11_house 41 = .ok (.iload_n 2, 1) := by decide +kernel
theorem dX11_house_42 : decode cX11_house 42 = .ok (.iconst 1, 1) := by decide +kernel
theorem dX11_house_43 : decode cX11_house 43 = .ok (.if_icmp .ne 16, 3) := by decide +kernel
theorem dX11_house_46 : decode cX11_house 46 = .ok (.aload_n 0, 1) := by decide +kernel
theorem dX11_house_47 : decode cX11_house 47 = .ok (.aload_n 0, 1) := by decide +kernel
theorem dX11_house_48 : decode cX11_house 48 = .ok (.getfield 20, 3) := by decide +kernel
theorem dX11_house_51 : decode cX11_house 51 = .ok (.iload_n 1, 1) := by decide +kernel
theorem dX11_house_52 : decode cX11_house 52 = .ok (.invokevirtual 116, 3) := by decide +kernel
theorem dX11_house_55 : decode cX11_house 55 = .ok (.invokevirtual 105, 3) := by decide +kernel
theorem dX11_house_58 : decode cX11_house 58 = .ok (.ireturn, 1) := by decide +kernel
theorem dX11_house_59 : decode cX11_house 59 = .ok (.aload_n 0, 1) := by decide +kernel
theorem dX11_house_60 : decode cX11_house 60 = .ok (.iload_n 2, 1) := by decide +kernel
theorem dX11_house_61 : decode cX11_house 61 = .ok (.iconst 2, 1) := by decide +kernel
theorem dX11_house_62 : decode cX11_house 62 = .ok (.if_icmp .ne 21, 3) := by decide +kernel
theorem dX11_house_65 : decode cX11_house 65 = .ok (.aload_n 0, 1) := by decide +kernel
theorem dX11_house_66 : decode cX11_house 66 = .ok (.getfield 37, 3) := by decide +kernel
theorem dX11_house_69 : decode cX11_house 69 = .ok (.iload_n 1, 1) := by decide +kernel
theorem dX11_house_70 : decode cX11_house 70 = .ok (.aload_n 0, 1) := by decide +kernel
theorem dX11_house_71 : decode cX11_house 71 = .ok (.getfield 20, 3) := by decide +kernel
theorem dX11_house_74 : decode cX11_house 74 = .ok (.getfield 102, 3) := by decide +kernel
theorem dX11_house_77 : decode cX11_house 77 = .ok (.invokevirtual 119, 3) := by decide +kernel
theorem dX11_house_80 : decode cX11_house 80 = .ok (.goto 18, 3) := by decide +kernel
theorem dX11_house_83 : decode cX11_house 83 = .ok (.aload_n 0, 1) := by decide +kernel
theorem dX11_house_84 : decode cX11_house 84 = .ok (.getfield 37, 3) := by decide +kernel
theorem dX11_house_87 : decode cX11_house 87 = .ok (.iload_n 1, 1) := by decide +kernel
theorem dX11_house_88 : decode cX11_house 88 = .ok (.aload_n 0, 1) := by decide +kernel
theorem dX11_house_89 : decode cX11_house 89 = .ok (.getfield 20, 3) := by decide +kernel
theorem dX11_house_92 : decode cX11_house 92 = .ok (.getfield 123, 3) := by decide +kernel
theorem dX11_house_95 : decode cX11_house 95 = .ok (.invokevirtual 126, 3) := by decide +kernel
theorem dX11_house_98 : decode cX11_house 98 = .ok (.invokevirtual 105, 3) := by decide +kernel
theorem dX11_house_101 : decode cX11_house 101 = .ok (.ireturn, 1) := by decide +kernel
theorem dX11_person_0 : decode cX11_person 0 = .ok (.aload_n 0, 1) := by decide +kernel
theorem dX11_person_1 : decode cX11_person 1 = .ok (.iload_n 1, 1) := by decide +kernel
theorem dX11_person_2 : decode cX11_person 2 = .ok (.invokevirtual 129, 3) := by decide +kernel
theorem dX11_person_5 : decode cX11_person 5 = .ok (.ifCond .eq 12, 3) := by decide +kernel
theorem dX11_person_8 : decode cX11_person 8 = .ok (.iload_n 2, 1) := by decide +kernel
theorem dX11_person_9 : decode cX11_person 9 = .ok (.ifCond .lt 8, 3) := by decide +kernel
theorem dX11_person_12 : decode cX11_person 12 = .ok (.iload_n 2, 1) := by decide +kernel
theorem dX11_person_13 : decode cX11_person 13 = .ok (.iconst 4, 1) := by decide +kernel
theorem dX11_person_14 : decode cX11_person 14 = .ok (.if_icmp .le 9, 3) := by decide +kernel
theorem dX11_person_17 : decode cX11_person 17 = .ok (.aload_n 0, 1) := by decide +kernel
theorem dX11_person_18 : decode cX11_person 18 = .ok (.iconst 1, 1) := by decide +kernel
theorem dX11_person_19 : decode cX11_person 19 = .ok (.invokevirtual 75, 3) := by decide +kernel
theorem dX11_person_22 : decode cX11_person 22 = .ok (.ireturn, 1) := by decide +kernel
theorem dX11_person_23 : decode cX11_person 23 = .ok (.aload_n 0, 1) := by decide +kernel
theorem dX11_person_24 : decode cX11_person 24 = .ok (.getfield 20, 3) := by decide +kernel
theorem dX11_person_27 : decode cX11_person 27 = .ok (.getfield 132, 3) := by decide +kernel
theorem dX11_person_30 : decode cX11_person 30 = .ok (.iload_n 1, 1) := by decide +kernel
theorem dX11_person_31 : decode cX11_person 31 = .ok (.aaload, 1) := by decide +kernel
theorem dX11_person_32 : decode cX11_person 32 = .ok (.astore_n 3, 1) := by decide +kernel
theorem dX11_person_33 : decode cX11_person 33 = .ok (.iload_n 2, 1) := by decide +kernel
theorem dX11_person_34 : decode cX11_person 34 = .ok (.tableswitch 70 0 3 #[30, 39, 48, 57], 30) := by decide +kernel
theorem dX11_person_64 : decode cX11_person 64 = .ok (.aload_n 0, 1) := by decide +kernel
theorem dX11_person_65 : decode cX11_person 65 = .ok (.aload_n 3, 1) := by decide +kernel
theorem dX11_person_66 : decode cX11_person 66 = .ok (.getfield 136, 3) := by decide +kernel
theorem dX11_person_69 : decode cX11_person 69 = .ok (.invokevirtual 105, 3) := by decide +kernel
theorem dX11_person_72 : decode cX11_person 72 = .ok (.ireturn, 1) := by decide +kernel
theorem dX11_person_73 : decode cX11_person 73 = .ok (.aload_n 0, 1) := by decide +kernel
theorem dX11_person_74 : decode cX11_person 74 = .ok (.aload_n 3, 1) := by decide +kernel
theorem dX11_person_75 : decode cX11_person 75 = .ok (.getfield 141, 3) := by decide +kernel
theorem dX11_person_78 : decode cX11_person 78 = .ok (.invokevirtual 105, 3) := by decide +kernel
theorem dX11_person_81 : decode cX11_person 81 = .ok (.ireturn, 1) := by decide +kernel
theorem dX11_person_82 : decode cX11_person 82 = .ok (.aload_n 0, 1) := by decide +kernel
theorem dX11_person_83 : decode cX11_person 83 = .ok (.aload_n 3, 1) := by decide +kernel
theorem dX11_person_84 : decode cX11_person 84 = .ok (.getfield 144, 3) := by decide +kernel
theorem dX11_person_87 : decode cX11_person 87 = .ok (.invokevirtual 105, 3) := by decide +kernel
theorem dX11_person_90 : decode cX11_person 90 = .ok (.ireturn, 1) := by decide +kernel
theorem dX11_person_91 : decode cX11_person 91 = .ok (.aload_n 0, 1) := by decide +kernel
theorem dX11_person_92 : decode cX11_person 92 = .ok (.aload_n 0, 1) := by decide +kernel
theorem dX11_person_93 : decode cX11_person 93 = .ok (.getfield 37, 3) := by decide +kernel
theorem dX11_person_96 : decode cX11_person 96 = .ok (.iload_n 1, 1) := by decide +kernel
theorem dX11_person_97 : decode cX11_person 97 = .ok (.invokevirtual 147, 3) := by decide +kernel
theorem dX11_person_100 : decode cX11_person 100 = .ok (.invokevirtual 105, 3) := by decide +kernel
theorem dX11_person_103 : decode cX11_person 103 = .ok (.ireturn, 1) := by decide +kernel
theorem dX11_person_104 : decode cX11_person 104 = .ok (.aload_n 0, 1) := by decide +kernel
theorem dX11_person_105 : decode cX11_person 105 = .ok (.aload_n 3, 1) := by decide +kernel
theorem dX11_person_106 : decode cX11_person 106 = .ok (.invokevirtual 150, 3) := by decide +kernel
theorem dX11_person_109 : decode cX11_person 109 = .ok (.invokevirtual 105, 3) := by decide +kernel
theorem dX11_person_112 : decode cX11_person 112 = .ok (.ireturn, 1) := by decide +kernel
theorem dX11_mark_0 : decode cX11_mark 0 = .ok (.aload_n 0, 1) := by decide +kernel
theorem dX11_mark_1 : decode cX11_mark 1 = .ok (.iload_n 1, 1) := by decide +kernel
theorem dX11_mark_2 : decode cX11_mark 2 = .ok (.invokevirtual 129, 3) := by decide +kernel
theorem dX11_mark_5 : decode cX11_mark 5 = .ok (.ifCond .eq 12, 3) := by decide +kernel
theorem dX11_mark_8 : decode cX11_mark 8 = .ok (.iload_n 2, 1) := by decide +kernel
theorem dX11_mark_9 : decode cX11_mark 9 = .ok (.ifCond .lt 8, 3) := by decide +kernel
theorem dX11_mark_12 : decode cX11_mark 12 = .ok (.iload_n 2, 1) := by decide +kernel
theorem dX11_mark_13 : decode cX11_mark 13 = .ok (.iconst 5, 1) := by decide +kernel
theorem dX11_mark_14 : decode cX11_mark 14 = .ok (.if_icmp .lt 9, 3) := by decide +kernel
theorem dX11_mark_17 : decode cX11_mark 17 = .ok (.aload_n 0, 1) := by decide +kernel
theorem dX11_mark_18 : decode cX11_mark 18 = .ok (.iconst 1, 1) := by decide +kernel
theorem dX11_mark_19 : decode cX11_mark 19 = .ok (.invokevirtual 75, 3) := by decide +kernel
theorem dX11_mark_22 : decode cX11_mark 22 = .ok (.ireturn, 1) := by decide +kernel
theorem dX11_mark_23 : decode cX11_mark 23 = .ok (.aload_n 0, 1) := by decide +kernel
theorem dX11_mark_24 : decode cX11_mark 24 = .ok (.aload_n 0, 1) := by decide +kernel
theorem dX11_mark_25 : decode cX11_mark 25 = .ok (.getfield 20, 3) := by decide +kernel
theorem dX11_mark_28 : decode cX11_mark 28 = .ok (.getfield 132, 3) := by decide +kernel
theorem dX11_mark_31 : decode cX11_mark 31 = .ok (.iload_n 1, 1) := by decide +kernel
theorem dX11_mark_32 : decode cX11_mark 32 = .ok (.aaload, 1) := by decide +kernel
theorem dX11_mark_33 : decode cX11_mark 33 = .ok (.getfield 154, 3) := by decide +kernel
theorem dX11_mark_36 : decode cX11_mark 36 = .ok (.iload_n 2, 1) := by decide +kernel
theorem dX11_mark_37 : decode cX11_mark 37 = .ok (.iaload, 1) := by decide +kernel
theorem dX11_mark_38 : decode cX11_mark 38 = .ok (.invokevirtual 105, 3) := by decide +kernel
theorem dX11_mark_41 : decode cX11_mark 41 = .ok (.ireturn, 1) := by decide +kernel
theorem dX11_good_0 : decode cX11_good 0 = .ok (.aload_n 0, 1) := by decide +kernel
theorem dX11_good_1 : decode cX11_good 1 = .ok (.iload_n 1, 1) := by decide +kernel
theorem dX11_good_2 : decode cX11_good 2 = .ok (.invokevirtual 157, 3) := by decide +kernel
theorem dX11_good_5 : decode cX11_good 5 = .ok (.ifCond .eq 12, 3) := by decide +kernel
theorem dX11_good_8 : decode cX11_good 8 = .ok (.iload_n 2, 1) := by decide +kernel
theorem dX11_good_9 : decode cX11_good 9 = .ok (.ifCond .lt 8, 3) := by decide +kernel
theorem dX11_good_12 : decode cX11_good 12 = .ok (.iload_n 2, 1) := by decide +kernel
theorem dX11_good_13 : decode cX11_good 13 = .ok (.iconst 3, 1) := by decide +kernel
theorem dX11_good_14 : decode cX11_good 14 = .ok (.if_icmp .le 9, 3) := by decide +kernel
theorem dX11_good_17 : decode cX11_good 17 = .ok (.aload_n 0, 1) := by decide +kernel
theorem dX11_good_18 : decode cX11_good 18 = .ok (.iconst 1, 1) := by decide +kernel
theorem dX11_good_19 : decode cX11_good 19 = .ok (.invokevirtual 75, 3) := by decide +kernel
theorem dX11_good_22 : decode cX11_good 22 = .ok (.ireturn, 1) := by decide +kernel
theorem dX11_good_23 : decode cX11_good 23 = .ok (.aload_n 0, 1) := by decide +kernel
theorem dX11_good_24 : decode cX11_good 24 = .ok (.getfield 20, 3) := by decide +kernel
theorem dX11_good_27 : decode cX11_good 27 = .ok (.getfield 160, 3) := by decide +kernel
theorem dX11_good_30 : decode cX11_good 30 = .ok (.iload_n 1, 1) := by decide +kernel
theorem dX11_good_31 : decode cX11_good 31 = .ok (.aaload, 1) := by decide +kernel
theorem dX11_good_32 : decode cX11_good 32 = .ok (.astore_n 3, 1) := by decide +kernel
theorem dX11_good_33 : decode cX11_good 33 = .ok (.iload_n 2, 1) := by decide +kernel
theorem dX11_good_34 : decode cX11_good 34 = .ok (.tableswitch 57 0 2 #[26, 35, 44], 26) := by decide +kernel
theorem dX11_good_60 : decode cX11_good 60 = .ok (.aload_n 0, 1) := by decide +kernel
theorem dX11_good_61 : decode cX11_good 61 = .ok (.aload_n 3, 1) := by decide +kernel
theorem dX11_good_62 : decode cX11_good 62 = .ok (.getfield 164, 3) := by decide +kernel
theorem dX11_good_65 : decode cX11_good 65 = .ok (.invokevirtual 105, 3) := by decide +kernel
theorem dX11_good_68 : decode cX11_good 68 = .ok (.ireturn, 1) := by decide +kernel
theorem dX11_good_69 : decode cX11_good 69 = .ok (.aload_n 0, 1) := by decide +kernel
theorem dX11_good_70 : decode cX11_good 70 = .ok (.aload_n 3, 1) := by decide +kernel
theorem dX11_good_71 : decode cX11_good 71 = .ok (.getfield 169, 3) := by decide +kernel
theorem dX11_good_74 : decode cX11_good 74 = .ok (.invokevirtual 105, 3) := by decide +kernel
theorem dX11_good_77 : decode cX11_good 77 = .ok (.ireturn, 1) := by decide +kernel
theorem dX11_good_78 : decode cX11_good 78 = .ok (.aload_n 0, 1) := by decide +kernel
theorem dX11_good_79 : decode cX11_good 79 = .ok (.aload_n 0, 1) := by decide +kernel
theorem dX11_good_80 : decode cX11_good 80 = .ok (.getfield 37, 3) := by decide +kernel
theorem dX11_good_83 : decode cX11_good 83 = .ok (.iload_n 1, 1) := by decide +kernel
theorem dX11_good_84 : decode cX11_good 84 = .ok (.invokevirtual 172, 3) := by decide +kernel
theorem dX11_good_87 : decode cX11_good 87 = .ok (.invokevirtual 105, 3) := by decide +kernel
theorem dX11_good_90 : decode cX11_good 90 = .ok (.ireturn, 1) := by decide +kernel
theorem dX11_good_91 : decode cX11_good 91 = .ok (.aload_n 0, 1) := by decide +kernel
theorem dX11_good_92 : decode cX11_good 92 = .ok (.aload_n 0, 1) := by decide +kernel
theorem dX11_good_93 : decode cX11_good 93 = .ok (.getfield 20, 3) := by decide +kernel
theorem dX11_good_96 : decode cX11_good 96 = .ok (.iload_n 1, 1) := by decide +kernel
theorem dX11_good_97 : decode cX11_good 97 = .ok (.invokevirtual 175, 3) := by decide +kernel
theorem dX11_good_100 : decode cX11_good 100 = .ok (.invokevirtual 105, 3) := by decide +kernel
theorem dX11_good_103 : decode cX11_good 103 = .ok (.ireturn, 1) := by decide +kernel
theorem dX11_light_0 : decode cX11_light 0 = .ok (.aload_n 0, 1) := by decide +kernel
theorem dX11_light_1 : decode cX11_light 1 = .ok (.getfield 20, 3) := by decide +kernel
theorem dX11_light_4 : decode cX11_light 4 = .ok (.getfield 178, 3) := by decide +kernel
theorem dX11_light_7 : decode cX11_light 7 = .ok (.ifCond .ne 9, 3) := by decide +kernel
theorem dX11_light_10 : decode cX11_light 10 = .ok (.aload_n 0, 1) := by decide +kernel
theorem dX11_light_11 : decode cX11_light 11 = .ok (.iconst 1, 1) := by decide +kernel
theorem dX11_light_12 : decode cX11_light 12 = .ok (.invokevirtual 75, 3) := by decide +kernel
theorem dX11_light_15 : decode cX11_light 15 = .ok (.ireturn, 1) := by decide +kernel
theorem dX11_light_16 : decode cX11_light 16 = .ok (.iload_n 1, 1) := by decide +kernel
theorem dX11_light_17 : decode cX11_light 17 = .ok (.invokestatic 182, 3) := by decide +kernel
theorem dX11_light_20 : decode cX11_light 20 = .ok (.ifCond .ne 9, 3) := by decide +kernel
theorem dX11_light_23 : decode cX11_light 23 = .ok (.aload_n 0, 1) := by decide +kernel
theorem dX11_light_24 : decode cX11_light 24 = .ok (.iconst 2, 1) := by decide +kernel
theorem dX11_light_25 : decode cX11_light 25 = .ok (.invokevirtual 75, 3) := by decide +kernel
theorem dX11_light_28 : decode cX11_light 28 = .ok (.ireturn, 1) := by decide +kernel
theorem dX11_light_29 : decode cX11_light 29 = .ok (.aload_n 0, 1) := by decide +kernel
theorem dX11_light_30 : decode cX11_light 30 = .ok (.aload_n 0, 1) := by decide +kernel
theorem dX11_light_31 : decode cX11_light 31 = .ok (.getfield 20, 3) := by decide +kernel
theorem dX11_light_34 : decode cX11_light 34 = .ok (.iload_n 1, 1) := by decide +kernel
theorem dX11_light_35 : decode cX11_light 35 = .ok (.invokevirtual 185, 3) := by decide +kernel
theorem dX11_light_38 : decode cX11_light 38 = .ok (.ifCond .eq 7, 3) := by decide +kernel
theorem dX11_light_41 : decode cX11_light 41 = .ok (.iconst 1, 1) := by decide +kernel
theorem dX11_light_42 : decode cX11_light 42 = .ok (.goto 4, 3) := by decide +kernel
theorem dX11_light_45 : decode cX11_light 45 = .ok (.iconst 0, 1) := by decide +kernel
theorem dX11_light_46 : decode cX11_light 46 = .ok (.invokevirtual 105, 3) := by decide +kernel
theorem dX11_light_49 : decode cX11_light 49 = .ok (.ireturn, 1) := by decide +kernel
theorem dX11_seen_0 : decode cX11_seen 0 = .ok (.aload_n 0, 1) := by decide +kernel
theorem dX11_seen_1 : decode cX11_seen 1 = .ok (.iload_n 1, 1) := by decide +kernel
theorem dX11_seen_2 : decode cX11_seen 2 = .ok (.invokevirtual 129, 3) := by decide +kernel
theorem dX11_seen_5 : decode cX11_seen 5 = .ok (.ifCond .eq 11, 3) := by decide +kernel
theorem dX11_seen_8 : decode cX11_seen 8 = .ok (.aload_n 0, 1) := by decide +kernel
theorem dX11_seen_9 : decode cX11_seen 9 = .ok (.iload_n 2, 1) := by decide +kernel
theorem dX11_seen_10 : decode cX11_seen 10 = .ok (.invokevirtual 108, 3) := by decide +kernel
theorem dX11_seen_13 : decode cX11_seen 13 = .ok (.ifCond .ne 9, 3) := by decide +kernel
theorem dX11_seen_16 : decode cX11_seen 16 = .ok (.aload_n 0, 1) := by decide +kernel
theorem dX11_seen_17 : decode cX11_seen 17 = .ok (.iconst 1, 1) := by decide +kernel
theorem dX11_seen_18 : decode cX11_seen 18 = .ok (.invokevirtual 75, 3) := by decide +kernel
theorem dX11_seen_21 : decode cX11_seen 21 = .ok (.ireturn, 1) := by decide +kernel
theorem dX11_seen_22 : decode cX11_seen 22 = .ok (.iload_n 3, 1) := by decide +kernel
theorem dX11_seen_23 : decode cX11_seen 23 = .ok (.invokestatic 182, 3) := by decide +kernel
theorem dX11_seen_26 : decode cX11_seen 26 = .ok (.ifCond .ne 9, 3) := by decide +kernel
theorem dX11_seen_29 : decode cX11_seen 29 = .ok (.aload_n 0, 1) := by decide +kernel
theorem dX11_seen_30 : decode cX11_seen 30 = .ok (.iconst 2, 1) := by decide +kernel
theorem dX11_seen_31 : decode cX11_seen 31 = .ok (.invokevirtual 75, 3) := by decide +kernel
theorem dX11_seen_34 : decode cX11_seen 34 = .ok (.ireturn, 1) := by decide +kernel
theorem dX11_seen_35 : decode cX11_seen 35 = .ok (.aload_n 0, 1) := by decide +kernel
theorem dX11_seen_36 : decode cX11_seen 36 = .ok (.aload_n 0, 1) := by decide +kernel
theorem dX11_seen_37 : decode cX11_seen 37 = .ok (.getfield 20, 3) := by decide +kernel
theorem dX11_seen_40 : decode cX11_seen 40 = .ok (.getfield 132, 3) := by decide +kernel
theorem dX11_seen_43 : decode cX11_seen 43 = .ok (.iload_n 1, 1) := by decide +kernel
theorem dX11_seen_44 : decode cX11_seen 44 = .ok (.aaload, 1) := by decide +kernel
theorem dX11_seen_45 : decode cX11_seen 45 = .ok (.aload_n 0, 1) := by decide +kernel
theorem dX11_seen_46 : decode cX11_seen 46 = .ok (.getfield 20, 3) := by decide +kernel
theorem dX11_seen_49 : decode cX11_seen 49 = .ok (.getfield 112, 3) := by decide +kernel
theorem dX11_seen_52 : decode cX11_seen 52 = .ok (.iload_n 2, 1) := by decide +kernel
theorem dX11_seen_53 : decode cX11_seen 53 = .ok (.iaload, 1) := by decide +kernel
theorem dX11_seen_54 : decode cX11_seen 54 = .ok (.aload_n 0, 1) := by decide +kernel
theorem dX11_seen_55 : decode cX11_seen 55 = .ok (.getfield 20, 3) := by decide +kernel
theorem dX11_seen_58 : decode cX11_seen 58 = .ok (.iload_n 3, 1) := by decide +kernel
theorem dX11_seen_59 : decode cX11_seen 59 = .ok (.invokevirtual 185, 3) := by decide +kernel
theorem dX11_seen_62 : decode cX11_seen 62 = .ok (.invokevirtual 188, 3) := by decide +kernel
theorem dX11_seen_65 : decode cX11_seen 65 = .ok (.invokevirtual 105, 3) := by decide +kernel
theorem dX11_seen_68 : decode cX11_seen 68 = .ok (.ireturn, 1) := by decide +kernel
theorem dX11_taken_0 : decode cX11_taken 0 = .ok (.aload_n 0, 1) := by decide +kernel
theorem dX11_taken_1 : decode cX11_taken 1 = .ok (.iload_n 1, 1) := by decide +kernel
theorem dX11_taken_2 : decode cX11_taken 2 = .ok (.invokevirtual 129, 3) := by decide +kernel
theorem dX11_taken_5 : decode cX11_taken 5 = .ok (.ifCond .eq 11, 3) := by decide +kernel
theorem dX11_taken_8 : decode cX11_taken 8 = .ok (.aload_n 0, 1) := by decide +kernel
theorem dX11_taken_9 : decode cX11_taken 9 = .ok (.iload_n 2, 1) := by decide +kernel
theorem dX11_taken_10 : decode cX11_taken 10 = .ok (.invokevirtual 108, 3) := by decide +kernel
theorem dX11_taken_13 : decode cX11_taken 13 = .ok (.ifCond .ne 9, 3) := by decide +kernel
theorem dX11_taken_16 : decode cX11_taken 16 = .ok (.aload_n 0, 1) := by decide +kernel
theorem dX11_taken_17 : decode cX11_taken 17 = .ok (.iconst 1, 1) := by decide +kernel
theorem dX11_taken_18 : decode cX11_taken 18 = .ok (.invokevirtual 75, 3) := by decide +kernel
theorem dX11_taken_21 : decode cX11_taken 21 = .ok (.ireturn, 1) := by decide +kernel
theorem dX11_taken_22 : decode cX11_taken 22 = .ok (.iload_n 3, 1) := by decide +kernel
theorem dX11_taken_23 : decode cX11_taken 23 = .ok (.invokestatic 182, 3) := by decide +kernel
theorem dX11_taken_26 : decode cX11_taken 26 = .ok (.ifCond .ne 9, 3) := by decide +kernel
theorem dX11_taken_29 : decode cX11_taken 29 = .ok (.aload_n 0, 1) := by decide +kernel
theorem dX11_taken_30 : decode cX11_taken 30 = .ok (.iconst 2, 1) := by decide +kernel
theorem dX11_taken_31 : decode cX11_taken 31 = .ok (.invokevirtual 75, 3) := by decide +kernel
theorem dX11_taken_34 : decode cX11_taken 34 = .ok (.ireturn, 1) := by decide +kernel
theorem dX11_taken_35 : decode cX11_taken 35 = .ok (.aload_n 0, 1) := by decide +kernel
theorem dX11_taken_36 : decode cX11_taken 36 = .ok (.aload_n 0, 1) := by decide +kernel
theorem dX11_taken_37 : decode cX11_taken 37 = .ok (.getfield 20, 3) := by decide +kernel
theorem dX11_taken_40 : decode cX11_taken 40 = .ok (.iload_n 1, 1) := by decide +kernel
theorem dX11_taken_41 : decode cX11_taken 41 = .ok (.aload_n 0, 1) := by decide +kernel
theorem dX11_taken_42 : decode cX11_taken 42 = .ok (.getfield 20, 3) := by decide +kernel
theorem dX11_taken_45 : decode cX11_taken 45 = .ok (.getfield 112, 3) := by decide +kernel
theorem dX11_taken_48 : decode cX11_taken 48 = .ok (.iload_n 2, 1) := by decide +kernel
theorem dX11_taken_49 : decode cX11_taken 49 = .ok (.iaload, 1) := by decide +kernel
theorem dX11_taken_50 : decode cX11_taken 50 = .ok (.aload_n 0, 1) := by decide +kernel
theorem dX11_taken_51 : decode cX11_taken 51 = .ok (.getfield 20, 3) := by decide +kernel
theorem dX11_taken_54 : decode cX11_taken 54 = .ok (.iload_n 3, 1) := by decide +kernel
theorem dX11_taken_55 : decode cX11_taken 55 = .ok (.invokevirtual 185, 3) := by decide +kernel
theorem dX11_taken_58 : decode cX11_taken 58 = .ok (.invokevirtual 192, 3) := by decide +kernel
theorem dX11_taken_61 : decode cX11_taken 61 = .ok (.invokevirtual 105, 3) := by decide +kernel
theorem dX11_taken_64 : decode cX11_taken 64 = .ok (.ireturn, 1) := by decide +kernel
theorem dX11_pairs_0 : decode cX11_pairs 0 = .ok (.aload_n 0, 1) := by decide +kernel
theorem dX11_pairs_1 : decode cX11_pairs 1 = .ok (.iload_n 1, 1) := by decide +kernel
theorem dX11_pairs_2 : decode cX11_pairs 2 = .ok (.invokevirtual 108, 3) := by decide +kernel
theorem dX11_pairs_5 : decode cX11_pairs 5 = .ok (.ifCond .ne 9, 3) := by decide +kernel
theorem dX11_pairs_8 : decode cX11_pairs 8 = .ok (.aload_n 0, 1) := by decide +kernel
theorem dX11_pairs_9 : decode cX11_pairs 9 = .ok (.iconst 1, 1) := by decide +kernel
theorem dX11_pairs_10 : decode cX11_pairs 10 = .ok (.invokevirtual 75, 3) := by decide +kernel
theorem dX11_pairs_13 : decode cX11_pairs 13 = .ok (.ireturn, 1) := by decide +kernel
theorem dX11_pairs_14 : decode cX11_pairs 14 = .ok (.iload_n 2, 1) := by decide +kernel
theorem dX11_pairs_15 : decode cX11_pairs 15 = .ok (.invokestatic 182, 3) := by decide +kernel
theorem dX11_pairs_18 : decode cX11_pairs 18 = .ok (.ifCond .ne 9, 3) := by decide +kernel
theorem dX11_pairs_21 : decode cX11_pairs 21 = .ok (.aload_n 0, 1) := by decide +kernel
theorem dX11_pairs_22 : decode cX11_pairs 22 = .ok (.iconst 2, 1) := by decide +kernel
theorem dX11_pairs_23 : decode cX11_pairs 23 = .ok (.invokevirtual 75, 3) := by decide +kernel
theorem dX11_pairs_26 : decode cX11_pairs 26 = .ok (.ireturn, 1) := by decide +kernel
theorem dX11_pairs_27 : decode cX11_pairs 27 = .ok (.iconst 0, 1) := by decide +kernel
theorem dX11_pairs_28 : decode cX11_pairs 28 = .ok (.istore_n 3, 1) := by decide +kernel
theorem dX11_pairs_29 : decode cX11_pairs 29 = .ok (.iconst 0, 1) := by decide +kernel
theorem dX11_pairs_30 : decode cX11_pairs 30 = .ok (.istore 4, 2) := by decide +kernel
theorem dX11_pairs_32 : decode cX11_pairs 32 = .ok (.iload 4, 2) := by decide +kernel
theorem dX11_pairs_34 : decode cX11_pairs 34 = .ok (.aload_n 0, 1) := by decide +kernel
theorem dX11_pairs_35 : decode cX11_pairs 35 = .ok (.getfield 20, 3) := by decide +kernel
theorem dX11_pairs_38 : decode cX11_pairs 38 = .ok (.getfield 102, 3) := by decide +kernel
theorem dX11_pairs_41 : decode cX11_pairs 41 = .ok (.if_icmp .ge 41, 3) := by decide +kernel
theorem dX11_pairs_44 : decode cX11_pairs 44 = .ok (.iload_n 3, 1) := by decide +kernel
theorem dX11_pairs_45 : decode cX11_pairs 45 = .ok (.aload_n 0, 1) := by decide +kernel
theorem dX11_pairs_46 : decode cX11_pairs 46 = .ok (.getfield 20, 3) := by decide +kernel
theorem dX11_pairs_49 : decode cX11_pairs 49 = .ok (.iload 4, 2) := by decide +kernel
theorem dX11_pairs_51 : decode cX11_pairs 51 = .ok (.aload_n 0, 1) := by decide +kernel
theorem dX11_pairs_52 : decode cX11_pairs 52 = .ok (.getfield 20, 3) := by decide +kernel
theorem dX11_pairs_55 : decode cX11_pairs 55 = .ok (.getfield 112, 3) := by decide +kernel
theorem dX11_pairs_58 : decode cX11_pairs 58 = .ok (.iload_n 1, 1) := by decide +kernel
theorem dX11_pairs_59 : decode cX11_pairs 59 = .ok (.iaload, 1) := by decide +kernel
theorem dX11_pairs_60 : decode cX11_pairs 60 = .ok (.aload_n 0, 1) := by decide +kernel
theorem dX11_pairs_61 : decode cX11_pairs 61 = .ok (.getfield 20, 3) := by decide +kernel
theorem dX11_pairs_64 : decode cX11_pairs 64 = .ok (.iload_n 2, 1) := by decide +kernel
theorem dX11_pairs_65 : decode cX11_pairs 65 = .ok (.invokevirtual 185, 3) := by decide +kernel
theorem dX11_pairs_68 : decode cX11_pairs 68 = .ok (.invokevirtual 192, 3) := by decide +kernel
theorem dX11_pairs_71 : decode cX11_pairs 71 = .ok (.invokestatic 196, 3) := by decide +kernel
theorem dX11_pairs_74 : decode cX11_pairs 74 = .ok (.iadd, 1) := by decide +kernel
theorem dX11_pairs_75 : decode cX11_pairs 75 = .ok (.istore_n 3, 1) := by decide +kernel
theorem dX11_pairs_76 : decode cX11_pairs 76 = .ok (.iinc 4 1, 3) := by decide +kernel
theorem dX11_pairs_79 : decode cX11_pairs 79 = .ok (.goto (-47), 3) := by decide +kernel
theorem dX11_pairs_82 : decode cX11_pairs 82 = .ok (.aload_n 0, 1) := by decide +kernel
theorem dX11_pairs_83 : decode cX11_pairs 83 = .ok (.iload_n 3, 1) := by decide +kernel
theorem dX11_pairs_84 : decode cX11_pairs 84 = .ok (.iconst 2, 1) := by decide +kernel
theorem dX11_pairs_85 : decode cX11_pairs 85 = .ok (.idiv, 1) := by decide +kernel
theorem dX11_pairs_86 : decode cX11_pairs 86 = .ok (.invokevirtual 105, 3) := by decide +kernel
theorem dX11_pairs_89 : decode cX11_pairs 89 = .ok (.ireturn, 1) := by decide +kernel
theorem dX11_knownAt_0 : decode cX11_knownAt 0 = .ok (.aload_n 0, 1) := by decide +kernel
theorem dX11_knownAt_1 : decode cX11_knownAt 1 = .ok (.iload_n 1, 1) := by decide +kernel
theorem dX11_knownAt_2 : decode cX11_knownAt 2 = .ok (.invokevirtual 129, 3) := by decide +kernel
theorem dX11_knownAt_5 : decode cX11_knownAt 5 = .ok (.ifCond .ne 9, 3) := by decide +kernel
theorem dX11_knownAt_8 : decode cX11_knownAt 8 = .ok (.aload_n 0, 1) := by decide +kernel
theorem dX11_knownAt_9 : decode cX11_knownAt 9 = .ok (.iconst 1, 1) := by decide +kernel
theorem dX11_knownAt_10 : decode cX11_knownAt 10 = .ok (.invokevirtual 75, 3) := by decide +kernel
theorem dX11_knownAt_13 : decode cX11_knownAt 13 = .ok (.ireturn, 1) := by decide +kernel
theorem dX11_knownAt_14 : decode cX11_knownAt 14 = .ok (.iconst 0, 1) := by decide +kernel
theorem dX11_knownAt_15 : decode cX11_knownAt 15 = .ok (.istore_n 2, 1) := by decide +kernel
theorem dX11_knownAt_16 : decode cX11_knownAt 16 = .ok (.iconst 0, 1) := by decide +kernel
theorem dX11_knownAt_17 : decode cX11_knownAt 17 = .ok (.istore_n 3, 1) := by decide +kernel
theorem dX11_knownAt_18 : decode cX11_knownAt 18 = .ok (.iload_n 3, 1) := by decide +kernel
theorem dX11_knownAt_19 : decode cX11_knownAt 19 = .ok (.aload_n 0, 1) := by decide +kernel
theorem dX11_knownAt_20 : decode cX11_knownAt 20 = .ok (.getfield 20, 3) := by decide +kernel
theorem dX11_knownAt_23 : decode cX11_knownAt 23 = .ok (.getfield 201, 3) := by decide +kernel
theorem dX11_knownAt_26 : decode cX11_knownAt 26 = .ok (.if_icmp .ge 36, 3) := by decide +kernel
theorem dX11_knownAt_29 : decode cX11_knownAt 29 = .ok (.aload_n 0, 1) := by decide +kernel
theorem dX11_knownAt_30 : decode cX11_knownAt 30 = .ok (.getfield 20, 3) := by decide +kernel
theorem dX11_knownAt_33 : decode cX11_knownAt 33 = .ok (.iload_n 1, 1) := by decide +kernel
theorem dX11_knownAt_34 : decode cX11_knownAt 34 = .ok (.aload_n 0, 1) := by decide +kernel
theorem dX11_knownAt_35 : decode cX11_knownAt 35 = .ok (.getfield 20, 3) := by decide +kernel
theorem dX11_knownAt_38 : decode cX11_knownAt 38 = .ok (.getfield 112, 3) := by decide +kernel
theorem dX11_knownAt_41 : decode cX11_knownAt 41 = .ok (.iload_n 3, 1) := by decide +kernel
theorem dX11_knownAt_42 : decode cX11_knownAt 42 = .ok (.iaload, 1) := by decide +kernel
theorem dX11_knownAt_43 : decode cX11_knownAt 43 = .ok (.iconst 1, 1) := by decide +kernel
theorem dX11_knownAt_44 : decode cX11_knownAt 44 = .ok (.invokevirtual 192, 3) := by decide +kernel
theorem dX11_knownAt_47 : decode cX11_knownAt 47 = .ok (.ifCond .ne 9, 3) := by decide +kernel
theorem dX11_knownAt_50 : decode cX11_knownAt 50 = .ok (.iload_n 2, 1) := by decide +kernel
theorem dX11_knownAt_51 : decode cX11_knownAt 51 = .ok (.iconst 1, 1) := by decide +kernel
theorem dX11_knownAt_52 : decode cX11_knownAt 52 = .ok (.iload_n 3, 1) := by decide +kernel
theorem dX11_knownAt_53 : decode cX11_knownAt 53 = .ok (.ishl, 1) := by decide +kernel
theorem dX11_knownAt_54 : decode cX11_knownAt 54 = .ok (.ior, 1) := by decide +kernel
theorem dX11_knownAt_55 : decode cX11_knownAt 55 = .ok (.istore_n 2, 1) := by decide +kernel
theorem dX11_knownAt_56 : decode cX11_knownAt 56 = .ok (.iinc 3 1, 3) := by decide +kernel
theorem dX11_knownAt_59 : decode cX11_knownAt 59 = .ok (.goto (-41), 3) := by decide +kernel
theorem dX11_knownAt_62 : decode cX11_knownAt 62 = .ok (.aload_n 0, 1) := by decide +kernel
theorem dX11_knownAt_63 : decode cX11_knownAt 63 = .ok (.iload_n 2, 1) := by decide +kernel
theorem dX11_knownAt_64 : decode cX11_knownAt 64 = .ok (.invokevirtual 105, 3) := by decide +kernel
theorem dX11_knownAt_67 : decode cX11_knownAt 67 = .ok (.ireturn, 1) := by decide +kernel
theorem dX11_fine_0 : decode cX11_fine 0 = .ok (.aload_n 0, 1) := by decide +kernel
theorem dX11_fine_1 : decode cX11_fine 1 = .ok (.iload_n 1, 1) := by decide +kernel
theorem dX11_fine_2 : decode cX11_fine 2 = .ok (.invokevirtual 129, 3) := by decide +kernel
theorem dX11_fine_5 : decode cX11_fine 5 = .ok (.ifCond .eq 11, 3) := by decide +kernel
theorem dX11_fine_8 : decode cX11_fine 8 = .ok (.aload_n 0, 1) := by decide +kernel
theorem dX11_fine_9 : decode cX11_fine 9 = .ok (.iload_n 2, 1) := by decide +kernel
theorem dX11_fine_10 : decode cX11_fine 10 = .ok (.invokevirtual 108, 3) := by decide +kernel
theorem dX11_fine_13 : decode cX11_fine 13 = .ok (.ifCond .ne 9, 3) := by decide +kernel
theorem dX11_fine_16 : decode cX11_fine 16 = .ok (.aload_n 0, 1) := by decide +kernel
theorem dX11_fine_17 : decode cX11_fine 17 = .ok (.iconst 1, 1) := by decide +kernel
theorem dX11_fine_18 : decode cX11_fine 18 = .ok (.invokevirtual 75, 3) := by decide +kernel
theorem dX11_fine_21 : decode cX11_fine 21 = .ok (.ireturn, 1) := by decide +kernel
theorem dX11_fine_22 : decode cX11_fine 22 = .ok (.iload_n 3, 1) := by decide +kernel
theorem dX11_fine_23 : decode cX11_fine 23 = .ok (.invokestatic 182, 3) := by decide +kernel
theorem dX11_fine_26 : decode cX11_fine 26 = .ok (.ifCond .ne 9, 3) := by decide +kernel
theorem dX11_fine_29 : decode cX11_fine 29 = .ok (.aload_n 0, 1) := by decide +kernel
theorem dX11_fine_30 : decode cX11_fine 30 = .ok (.iconst 2, 1) := by decide +kernel
theorem dX11_fine_31 : decode cX11_fine 31 = .ok (.invokevirtual 75, 3) := by decide +kernel
theorem dX11_fine_34 : decode cX11_fine 34 = .ok (.ireturn, 1) := by decide +kernel
theorem dX11_fine_35 : decode cX11_fine 35 = .ok (.aload_n 0, 1) := by decide +kernel
theorem dX11_fine_36 : decode cX11_fine 36 = .ok (.aload_n 0, 1) := by decide +kernel
theorem dX11_fine_37 : decode cX11_fine 37 = .ok (.getfield 20, 3) := by decide +kernel
theorem dX11_fine_40 : decode cX11_fine 40 = .ok (.getfield 132, 3) := by decide +kernel
theorem dX11_fine_43 : decode cX11_fine 43 = .ok (.iload_n 1, 1) := by decide +kernel
theorem dX11_fine_44 : decode cX11_fine 44 = .ok (.aaload, 1) := by decide +kernel
theorem dX11_fine_45 : decode cX11_fine 45 = .ok (.aload_n 0, 1) := by decide +kernel
theorem dX11_fine_46 : decode cX11_fine 46 = .ok (.getfield 20, 3) := by decide +kernel
theorem dX11_fine_49 : decode cX11_fine 49 = .ok (.getfield 112, 3) := by decide +kernel
theorem dX11_fine_52 : decode cX11_fine 52 = .ok (.iload_n 2, 1) := by decide +kernel
theorem dX11_fine_53 : decode cX11_fine 53 = .ok (.iaload, 1) := by decide +kernel
theorem dX11_fine_54 : decode cX11_fine 54 = .ok (.aload_n 0, 1) := by decide +kernel
theorem dX11_fine_55 : decode cX11_fine 55 = .ok (.getfield 20, 3) := by decide +kernel
theorem dX11_fine_58 : decode cX11_fine 58 = .ok (.iload_n 3, 1) := by decide +kernel
theorem dX11_fine_59 : decode cX11_fine 59 = .ok (.invokevirtual 185, 3) := by decide +kernel
theorem dX11_fine_62 : decode cX11_fine 62 = .ok (.invokevirtual 204, 3) := by decide +kernel
theorem dX11_fine_65 : decode cX11_fine 65 = .ok (.invokevirtual 105, 3) := by decide +kernel
theorem dX11_fine_68 : decode cX11_fine 68 = .ok (.ireturn, 1) := by decide +kernel
theorem dX11_visit_0 : decode cX11_visit 0 = .ok (.aload_n 0, 1) := by decide +kernel
theorem dX11_visit_1 : decode cX11_visit 1 = .ok (.iload_n 1, 1) := by decide +kernel
theorem dX11_visit_2 : decode cX11_visit 2 = .ok (.invokevirtual 207, 3) := by decide +kernel
theorem dX11_visit_5 : decode cX11_visit 5 = .ok (.ifCond .eq 12, 3) := by decide +kernel
theorem dX11_visit_8 : decode cX11_visit 8 = .ok (.iload_n 2, 1) := by decide +kernel
theorem dX11_visit_9 : decode cX11_visit 9 = .ok (.ifCond .lt 8, 3) := by decide +kernel
theorem dX11_visit_12 : decode cX11_visit 12 = .ok (.iload_n 2, 1) := by decide +kernel
theorem dX11_visit_13 : decode cX11_visit 13 = .ok (.iconst 4, 1) := by decide +kernel
theorem dX11_visit_14 : decode cX11_visit 14 = .ok (.if_icmp .le 9, 3) := by decide +kernel
theorem dX11_visit_17 : decode cX11_visit 17 = .ok (.aload_n 0, 1) := by decide +kernel
theorem dX11_visit_18 : decode cX11_visit 18 = .ok (.iconst 1, 1) := by decide +kernel
theorem dX11_visit_19 : decode cX11_visit 19 = .ok (.invokevirtual 75, 3) := by decide +kernel
theorem dX11_visit_22 : decode cX11_visit 22 = .ok (.ireturn, 1) := by decide +kernel
theorem dX11_visit_23 : decode cX11_visit 23 = .ok (.aload_n 0, 1) := by decide +kernel
theorem dX11_visit_24 : decode cX11_visit 24 = .ok (.getfield 20, 3) := by decide +kernel
theorem dX11_visit_27 : decode cX11_visit 27 = .ok (.getfield 210, 3) := by decide +kernel
theorem dX11_visit_30 : decode cX11_visit 30 = .ok (.iload_n 1, 1) := by decide +kernel
theorem dX11_visit_31 : decode cX11_visit 31 = .ok (.aaload, 1) := by decide +kernel
theorem dX11_visit_32 : decode cX11_visit 32 = .ok (.astore_n 3, 1) := by decide +kernel
theorem dX11_visit_33 : decode cX11_visit 33 = .ok (.iload_n 2, 1) := by decide +kernel
theorem dX11_visit_34 : decode cX11_visit 34 = .ok (.tableswitch 70 0 3 #[30, 39, 48, 57], 30) := by decide +kernel
theorem dX11_visit_64 : decode cX11_visit 64 = .ok (.aload_n 0, 1) := by decide +kernel
theorem dX11_visit_65 : decode cX11_visit 65 = .ok (.aload_n 3, 1) := by decide +kernel
theorem dX11_visit_66 : decode cX11_visit 66 = .ok (.getfield 214, 3) := by decide +kernel
theorem dX11_visit_69 : decode cX11_visit 69 = .ok (.invokevirtual 105, 3) := by decide +kernel
theorem dX11_visit_72 : decode cX11_visit 72 = .ok (.ireturn, 1) := by decide +kernel
theorem dX11_visit_73 : decode cX11_visit 73 = .ok (.aload_n 0, 1) := by decide +kernel
theorem dX11_visit_74 : decode cX11_visit 74 = .ok (.aload_n 3, 1) := by decide +kernel
theorem dX11_visit_75 : decode cX11_visit 75 = .ok (.getfield 219, 3) := by decide +kernel
theorem dX11_visit_78 : decode cX11_visit 78 = .ok (.invokevirtual 105, 3) := by decide +kernel
theorem dX11_visit_81 : decode cX11_visit 81 = .ok (.ireturn, 1) := by decide +kernel
theorem dX11_visit_82 : decode cX11_visit 82 = .ok (.aload_n 0, 1) := by decide +kernel
theorem dX11_visit_83 : decode cX11_visit 83 = .ok (.aload_n 3, 1) := by decide +kernel
theorem dX11_visit_84 : decode cX11_visit 84 = .ok (.getfield 222, 3) := by decide +kernel
theorem dX11_visit_87 : decode cX11_visit 87 = .ok (.invokevirtual 105, 3) := by decide +kernel
theorem dX11_visit_90 : decode cX11_visit 90 = .ok (.ireturn, 1) := by decide +kernel
theorem dX11_visit_91 : decode cX11_visit 91 = .ok (.aload_n 0, 1) := by decide +kernel
theorem dX11_visit_92 : decode cX11_visit 92 = .ok (.aload_n 0, 1) := by decide +kernel
theorem dX11_visit_93 : decode cX11_visit 93 = .ok (.getfield 20, 3) := by decide +kernel
theorem dX11_visit_96 : decode cX11_visit 96 = .ok (.iload_n 1, 1) := by decide +kernel
theorem dX11_visit_97 : decode cX11_visit 97 = .ok (.invokevirtual 225, 3) := by decide +kernel
theorem dX11_visit_100 : decode cX11_visit 100 = .ok (.invokevirtual 105, 3) := by decide +kernel
theorem dX11_visit_103 : decode cX11_visit 103 = .ok (.ireturn, 1) := by decide +kernel
theorem dX11_visit_104 : decode cX11_visit 104 = .ok (.aload_n 0, 1) := by decide +kernel
theorem dX11_visit_105 : decode cX11_visit 105 = .ok (.aload_n 0, 1) := by decide +kernel
theorem dX11_visit_106 : decode cX11_visit 106 = .ok (.getfield 20, 3) := by decide +kernel
theorem dX11_visit_109 : decode cX11_visit 109 = .ok (.iload_n 1, 1) := by decide +kernel
theorem dX11_visit_110 : decode cX11_visit 110 = .ok (.bipush 10, 2) := by decide +kernel
theorem dX11_visit_112 : decode cX11_visit 112 = .ok (.invokevirtual 228, 3) := by decide +kernel
theorem dX11_visit_115 : decode cX11_visit 115 = .ok (.invokevirtual 105, 3) := by decide +kernel
theorem dX11_visit_118 : decode cX11_visit 118 = .ok (.ireturn, 1) := by decide +kernel
theorem dX11_fines_0 : decode cX11_fines 0 = .ok (.aload_n 0, 1) := by decide +kernel
theorem dX11_fines_1 : decode cX11_fines 1 = .ok (.iload_n 1, 1) := by decide +kernel
theorem dX11_fines_2 : decode cX11_fines 2 = .ok (.invokevirtual 129, 3) := by decide +kernel
theorem dX11_fines_5 : decode cX11_fines 5 = .ok (.ifCond .ne 9, 3) := by decide +kernel
theorem dX11_fines_8 : decode cX11_fines 8 = .ok (.aload_n 0, 1) := by decide +kernel
theorem dX11_fines_9 : decode cX11_fines 9 = .ok (.iconst 1, 1) := by decide +kernel
theorem dX11_fines_10 : decode cX11_fines 10 = .ok (.invokevirtual 75, 3) := by decide +kernel
theorem dX11_fines_13 : decode cX11_fines 13 = .ok (.ireturn, 1) := by decide +kernel
theorem dX11_fines_14 : decode cX11_fines 14 = .ok (.iconst 0, 1) := by decide +kernel
theorem dX11_fines_15 : decode cX11_fines 15 = .ok (.istore_n 2, 1) := by decide +kernel
theorem dX11_fines_16 : decode cX11_fines 16 = .ok (.iconst 0, 1) := by decide +kernel
theorem dX11_fines_17 : decode cX11_fines 17 = .ok (.istore_n 3, 1) := by decide +kernel
theorem dX11_fines_18 : decode cX11_fines 18 = .ok (.iload_n 3, 1) := by decide +kernel
theorem dX11_fines_19 : decode cX11_fines 19 = .ok (.aload_n 0, 1) := by decide +kernel
theorem dX11_fines_20 : decode cX11_fines 20 = .ok (.getfield 20, 3) := by decide +kernel
theorem dX11_fines_23 : decode cX11_fines 23 = .ok (.getfield 231, 3) := by decide +kernel
theorem dX11_fines_26 : decode cX11_fines 26 = .ok (.if_icmp .ge 38, 3) := by decide +kernel
theorem dX11_fines_29 : decode cX11_fines 29 = .ok (.aload_n 0, 1) := by decide +kernel
theorem dX11_fines_30 : decode cX11_fines 30 = .ok (.getfield 20, 3) := by decide +kernel
theorem dX11_fines_33 : decode cX11_fines 33 = .ok (.getfield 210, 3) := by decide +kernel
theorem dX11_fines_36 : decode cX11_fines 36 = .ok (.iload_n 3, 1) := by decide +kernel
theorem dX11_fines_37 : decode cX11_fines 37 = .ok (.aaload, 1) := by decide +kernel
theorem dX11_fines_38 : decode cX11_fines 38 = .ok (.getfield 214, 3) := by decide +kernel
theorem dX11_fines_41 : decode cX11_fines 41 = .ok (.iload_n 1, 1) := by decide +kernel
theorem dX11_fines_42 : decode cX11_fines 42 = .ok (.if_icmp .ne 16, 3) := by decide +kernel
theorem dX11_fines_45 : decode cX11_fines 45 = .ok (.iload_n 2, 1) := by decide +kernel
theorem dX11_fines_46 : decode cX11_fines 46 = .ok (.aload_n 0, 1) := by decide +kernel
theorem dX11_fines_47 : decode cX11_fines 47 = .ok (.getfield 20, 3) := by decide +kernel
theorem dX11_fines_50 : decode cX11_fines 50 = .ok (.iload_n 3, 1) := by decide +kernel
theorem dX11_fines_51 : decode cX11_fines 51 = .ok (.bipush 10, 2) := by decide +kernel
theorem dX11_fines_53 : decode cX11_fines 53 = .ok (.invokevirtual 228, 3) := by decide +kernel
theorem dX11_fines_56 : decode cX11_fines 56 = .ok (.iadd, 1) := by decide +kernel
theorem dX11_fines_57 : decode cX11_fines 57 = .ok (.istore_n 2, 1) := by decide +kernel
theorem dX11_fines_58 : decode cX11_fines 58 = .ok (.iinc 3 1, 3) := by decide +kernel
theorem dX11_fines_61 : decode cX11_fines 61 = .ok (.goto (-43), 3) := by decide +kernel
theorem dX11_fines_64 : decode cX11_fines 64 = .ok (.aload_n 0, 1) := by decide +kernel
theorem dX11_fines_65 : decode cX11_fines 65 = .ok (.iload_n 2, 1) := by decide +kernel
theorem dX11_fines_66 : decode cX11_fines 66 = .ok (.invokevirtual 105, 3) := by decide +kernel
theorem dX11_fines_69 : decode cX11_fines 69 = .ok (.ireturn, 1) := by decide +kernel
theorem dX11_bares_0 : decode cX11_bares 0 = .ok (.aload_n 0, 1) := by decide +kernel
theorem dX11_bares_1 : decode cX11_bares 1 = .ok (.iload_n 1, 1) := by decide +kernel
theorem dX11_bares_2 : decode cX11_bares 2 = .ok (.invokevirtual 129, 3) := by decide +kernel
theorem dX11_bares_5 : decode cX11_bares 5 = .ok (.ifCond .ne 9, 3) := by decide +kernel
theorem dX11_bares_8 : decode cX11_bares 8 = .ok (.aload_n 0, 1) := by decide +kernel
theorem dX11_bares_9 : decode cX11_bares 9 = .ok (.iconst 1, 1) := by decide +kernel
theorem dX11_bares_10 : decode cX11_bares 10 = .ok (.invokevirtual 75, 3) := by decide +kernel
theorem dX11_bares_13 : decode cX11_bares 13 = .ok (.ireturn, 1) := by decide +kernel
theorem dX11_bares_14 : decode cX11_bares 14 = .ok (.iconst 0, 1) := by decide +kernel
theorem dX11_bares_15 : decode cX11_bares 15 = .ok (.istore_n 2, 1) := by decide +kernel
theorem dX11_bares_16 : decode cX11_bares 16 = .ok (.iconst 0, 1) := by decide +kernel
theorem dX11_bares_17 : decode cX11_bares 17 = .ok (.istore_n 3, 1) := by decide +kernel
theorem dX11_bares_18 : decode cX11_bares 18 = .ok (.iload_n 3, 1) := by decide +kernel
theorem dX11_bares_19 : decode cX11_bares 19 = .ok (.aload_n 0, 1) := by decide +kernel
theorem dX11_bares_20 : decode cX11_bares 20 = .ok (.getfield 20, 3) := by decide +kernel
theorem dX11_bares_23 : decode cX11_bares 23 = .ok (.getfield 231, 3) := by decide +kernel
theorem dX11_bares_26 : decode cX11_bares 26 = .ok (.if_icmp .ge 45, 3) := by decide +kernel
theorem dX11_bares_29 : decode cX11_bares 29 = .ok (.aload_n 0, 1) := by decide +kernel
theorem dX11_bares_30 : decode cX11_bares 30 = .ok (.getfield 20, 3) := by decide +kernel
theorem dX11_bares_33 : decode cX11_bares 33 = .ok (.getfield 210, 3) := by decide +kernel
theorem dX11_bares_36 : decode cX11_bares 36 = .ok (.iload_n 3, 1) := by decide +kernel
theorem dX11_bares_37 : decode cX11_bares 37 = .ok (.aaload, 1) := by decide +kernel
theorem dX11_bares_38 : decode cX11_bares 38 = .ok (.getfield 214, 3) := by decide +kernel
theorem dX11_bares_41 : decode cX11_bares 41 = .ok (.iload_n 1, 1) := by decide +kernel
theorem dX11_bares_42 : decode cX11_bares 42 = .ok (.if_icmp .ne 23, 3) := by decide +kernel
theorem dX11_bares_45 : decode cX11_bares 45 = .ok (.aload_n 0, 1) := by decide +kernel
theorem dX11_bares_46 : decode cX11_bares 46 = .ok (.getfield 20, 3) := by decide +kernel
theorem dX11_bares_49 : decode cX11_bares 49 = .ok (.iload_n 3, 1) := by decide +kernel
theorem dX11_bares_50 : decode cX11_bares 50 = .ok (.invokevirtual 225, 3) := by decide +kernel
theorem dX11_bares_53 : decode cX11_bares 53 = .ok (.bipush 28, 2) := by decide +kernel
theorem dX11_bares_55 : decode cX11_bares 55 = .ok (.iand, 1) := by decide +kernel
theorem dX11_bares_56 : decode cX11_bares 56 = .ok (.ifCond .eq 9, 3) := by decide +kernel
theorem dX11_bares_59 : decode cX11_bares 59 = .ok (.iload_n 2, 1) := by decide +kernel
theorem dX11_bares_60 : decode cX11_bares 60 = .ok (.iconst 1, 1) := by decide +kernel
theorem dX11_bares_61 : decode cX11_bares 61 = .ok (.iload_n 3, 1) := by decide +kernel
theorem dX11_bares_62 : decode cX11_bares 62 = .ok (.ishl, 1) := by decide +kernel
theorem dX11_bares_63 : decode cX11_bares 63 = .ok (.ior, 1) := by decide +kernel
theorem dX11_bares_64 : decode cX11_bares 64 = .ok (.istore_n 2, 1) := by decide +kernel
theorem dX11_bares_65 : decode cX11_bares 65 = .ok (.iinc 3 1, 3) := by decide +kernel
theorem dX11_bares_68 : decode cX11_bares 68 = .ok (.goto (-50), 3) := by decide +kernel
theorem dX11_bares_71 : decode cX11_bares 71 = .ok (.aload_n 0, 1) := by decide +kernel
theorem dX11_bares_72 : decode cX11_bares 72 = .ok (.iload_n 2, 1) := by decide +kernel
theorem dX11_bares_73 : decode cX11_bares 73 = .ok (.invokevirtual 105, 3) := by decide +kernel
theorem dX11_bares_76 : decode cX11_bares 76 = .ok (.ireturn, 1) := by decide +kernel
theorem dX11_met_0 : decode cX11_met 0 = .ok (.aload_n 0, 1) := by decide +kernel
theorem dX11_met_1 : decode cX11_met 1 = .ok (.iload_n 1, 1) := by decide +kernel
theorem dX11_met_2 : decode cX11_met 2 = .ok (.invokevirtual 207, 3) := by decide +kernel
theorem dX11_met_5 : decode cX11_met 5 = .ok (.ifCond .ne 9, 3) := by decide +kernel
theorem dX11_met_8 : decode cX11_met 8 = .ok (.aload_n 0, 1) := by decide +kernel
theorem dX11_met_9 : decode cX11_met 9 = .ok (.iconst 1, 1) := by decide +kernel
theorem dX11_met_10 : decode cX11_met 10 = .ok (.invokevirtual 75, 3) := by decide +kernel
theorem dX11_met_13 : decode cX11_met 13 = .ok (.ireturn, 1) := by decide +kernel
theorem dX11_met_14 : decode cX11_met 14 = .ok (.aload_n 0, 1) := by decide +kernel
theorem dX11_met_15 : decode cX11_met 15 = .ok (.getfield 20, 3) := by decide +kernel
theorem dX11_met_18 : decode cX11_met 18 = .ok (.getfield 210, 3) := by decide +kernel
theorem dX11_met_21 : decode cX11_met 21 = .ok (.iload_n 1, 1) := by decide +kernel
theorem dX11_met_22 : decode cX11_met 22 = .ok (.aaload, 1) := by decide +kernel
theorem dX11_met_23 : decode cX11_met 23 = .ok (.astore_n 2, 1) := by decide +kernel
theorem dX11_met_24 : decode cX11_met 24 = .ok (.iconst 0, 1) := by decide +kernel
theorem dX11_met_25 : decode cX11_met 25 = .ok (.istore_n 3, 1) := by decide +kernel
theorem dX11_met_26 : decode cX11_met 26 = .ok (.iconst 0, 1) := by decide +kernel
theorem dX11_met_27 : decode cX11_met 27 = .ok (.istore 4, 2) := by decide +kernel
theorem dX11_met_29 : decode cX11_met 29 = .ok (.iload 4, 2) := by decide +kernel
theorem dX11_met_31 : decode cX11_met 31 = .ok (.aload_n 0, 1) := by decide +kernel
theorem dX11_met_32 : decode cX11_met 32 = .ok (.getfield 20, 3) := by decide +kernel
theorem dX11_met_35 : decode cX11_met 35 = .ok (.getfield 231, 3) := by decide +kernel
theorem dX11_met_38 : decode cX11_met 38 = .ok (.if_icmp .ge 55, 3) := by decide +kernel
theorem dX11_met_41 : decode cX11_met 41 = .ok (.aload_n 0, 1) := by decide +kernel
theorem dX11_met_42 : decode cX11_met 42 = .ok (.getfield 20, 3) := by decide +kernel
theorem dX11_met_45 : decode cX11_met 45 = .ok (.getfield 210, 3) := by decide +kernel
theorem dX11_met_48 : decode cX11_met 48 = .ok (.iload 4, 2) := by decide +kernel
theorem dX11_met_50 : decode cX11_met 50 = .ok (.aaload, 1) := by decide +kernel
theorem dX11_met_51 : decode cX11_met 51 = .ok (.astore 5, 2) := by decide +kernel
theorem dX11_met_53 : decode cX11_met 53 = .ok (.aload 5, 2) := by decide +kernel
theorem dX11_met_55 : decode cX11_met 55 = .ok (.getfield 219, 3) := by decide +kernel
theorem dX11_met_58 : decode cX11_met 58 = .ok (.aload_n 2, 1) := by decide +kernel
theorem dX11_met_59 : decode cX11_met 59 = .ok (.getfield 219, 3) := by decide +kernel
theorem dX11_met_62 : decode cX11_met 62 = .ok (.if_icmp .ne 25, 3) := by decide +kernel
theorem dX11_met_65 : decode cX11_met 65 = .ok (.aload 5, 2) := by decide +kernel
theorem dX11_met_67 : decode cX11_met 67 = .ok (.getfield 222, 3) := by decide +kernel
theorem dX11_met_70 : decode cX11_met 70 = .ok (.aload_n 2, 1) := by decide +kernel
theorem dX11_met_71 : decode cX11_met 71 = .ok (.getfield 222, 3) := by decide +kernel
theorem dX11_met_74 : decode cX11_met 74 = .ok (.if_icmp .ne 13, 3) := by decide +kernel
theorem dX11_met_77 : decode cX11_met 77 = .ok (.iload_n 3, 1) := by decide +kernel
theorem dX11_met_78 : decode cX11_met 78 = .ok (.iconst 1, 1) := by decide +kernel
theorem dX11_met_79 : decode cX11_met 79 = .ok (.aload 5, 2) := by decide +kernel
theorem dX11_met_81 : decode cX11_met 81 = .ok (.getfield 214, 3) := by decide +kernel
theorem dX11_met_84 : decode cX11_met 84 = .ok (.ishl, 1) := by decide +kernel
theorem dX11_met_85 : decode cX11_met 85 = .ok (.ior, 1) := by decide +kernel
theorem dX11_met_86 : decode cX11_met 86 = .ok (.istore_n 3, 1) := by decide +kernel
theorem dX11_met_87 : decode cX11_met 87 = .ok (.iinc 4 1, 3) := by decide +kernel
theorem dX11_met_90 : decode cX11_met 90 = .ok (.goto (-61), 3) := by decide +kernel
theorem dX11_met_93 : decode cX11_met 93 = .ok (.aload_n 0, 1) := by decide +kernel
theorem dX11_met_94 : decode cX11_met 94 = .ok (.iload_n 3, 1) := by decide +kernel
theorem dX11_met_95 : decode cX11_met 95 = .ok (.invokevirtual 105, 3) := by decide +kernel
theorem dX11_met_98 : decode cX11_met 98 = .ok (.ireturn, 1) := by decide +kernel
theorem dX11_busiest_0 : decode cX11_busiest 0 = .ok (.aload_n 0, 1) := by decide +kernel
theorem dX11_busiest_1 : decode cX11_busiest 1 = .ok (.getfield 20, 3) := by decide +kernel
theorem dX11_busiest_4 : decode cX11_busiest 4 = .ok (.getfield 178, 3) := by decide +kernel
theorem dX11_busiest_7 : decode cX11_busiest 7 = .ok (.ifCond .ne 9, 3) := by decide +kernel
theorem dX11_busiest_10 : decode cX11_busiest 10 = .ok (.aload_n 0, 1) := by decide +kernel
theorem dX11_busiest_11 : decode cX11_busiest 11 = .ok (.iconst 1, 1) := by decide +kernel
theorem dX11_busiest_12 : decode cX11_busiest 12 = .ok (.invokevirtual 75, 3) := by decide +kernel
theorem dX11_busiest_15 : decode cX11_busiest 15 = .ok (.ireturn, 1) := by decide +kernel
theorem dX11_busiest_16 : decode cX11_busiest 16 = .ok (.bipush (-2), 2) := by decide +kernel
theorem dX11_busiest_18 : decode cX11_busiest 18 = .ok (.istore_n 1, 1) := by decide +kernel
theorem dX11_busiest_19 : decode cX11_busiest 19 = .ok (.iconst 0, 1) := by decide +kernel
theorem dX11_busiest_20 : decode cX11_busiest 20 = .ok (.istore_n 2, 1) := by decide +kernel
theorem dX11_busiest_21 : decode cX11_busiest 21 = .ok (.iconst 0, 1) := by decide +kernel
theorem dX11_busiest_22 : decode cX11_busiest 22 = .ok (.istore_n 3, 1) := by decide +kernel
theorem dX11_busiest_23 : decode cX11_busiest 23 = .ok (.iload_n 3, 1) := by decide +kernel
theorem dX11_busiest_24 : decode cX11_busiest 24 = .ok (.bipush 24, 2) := by decide +kernel
theorem dX11_busiest_26 : decode cX11_busiest 26 = .ok (.if_icmp .ge 30, 3) := by decide +kernel
theorem dX11_busiest_29 : decode cX11_busiest 29 = .ok (.aload_n 0, 1) := by decide +kernel
theorem dX11_busiest_30 : decode cX11_busiest 30 = .ok (.getfield 20, 3) := by decide +kernel
theorem dX11_busiest_33 : decode cX11_busiest 33 = .ok (.iload_n 3, 1) := by decide +kernel
theorem dX11_busiest_34 : decode cX11_busiest 34 = .ok (.invokevirtual 234, 3) := by decide +kernel
theorem dX11_busiest_37 : decode cX11_busiest 37 = .ok (.istore 4, 2) := by decide +kernel
theorem dX11_busiest_39 : decode cX11_busiest 39 = .ok (.iload 4, 2) := by decide +kernel
theorem dX11_busiest_41 : decode cX11_busiest 41 = .ok (.iload_n 2, 1) := by decide +kernel
theorem dX11_busiest_42 : decode cX11_busiest 42 = .ok (.if_icmp .le 8, 3) := by decide +kernel
theorem dX11_busiest_45 : decode cX11_busiest 45 = .ok (.iload 4, 2) := by decide +kernel
theorem dX11_busiest_47 : decode cX11_busiest 47 = .ok (.istore_n 2, 1) := by decide +kernel
theorem dX11_busiest_48 : decode cX11_busiest 48 = .ok (.iload_n 3, 1) := by decide +kernel
theorem dX11_busiest_49 : decode cX11_busiest 49 = .ok (.istore_n 1, 1) := by decide +kernel
theorem dX11_busiest_50 : decode cX11_busiest 50 = .ok (.iinc 3 1, 3) := by decide +kernel
theorem dX11_busiest_53 : decode cX11_busiest 53 = .ok (.goto (-30), 3) := by decide +kernel
theorem dX11_busiest_56 : decode cX11_busiest 56 = .ok (.aload_n 0, 1) := by decide +kernel
theorem dX11_busiest_57 : decode cX11_busiest 57 = .ok (.iload_n 1, 1) := by decide +kernel
theorem dX11_busiest_58 : decode cX11_busiest 58 = .ok (.invokevirtual 105, 3) := by decide +kernel
theorem dX11_busiest_61 : decode cX11_busiest 61 = .ok (.ireturn, 1) := by decide +kernel
theorem dX11_apart_0 : decode cX11_apart 0 = .ok (.aload_n 0, 1) := by decide +kernel
theorem dX11_apart_1 : decode cX11_apart 1 = .ok (.iload_n 1, 1) := by decide +kernel
theorem dX11_apart_2 : decode cX11_apart 2 = .ok (.invokevirtual 129, 3) := by decide +kernel
theorem dX11_apart_5 : decode cX11_apart 5 = .ok (.ifCond .eq 16, 3) := by decide +kernel
theorem dX11_apart_8 : decode cX11_apart 8 = .ok (.aload_n 0, 1) := by decide +kernel
theorem dX11_apart_9 : decode cX11_apart 9 = .ok (.iload_n 2, 1) := by decide +kernel
theorem dX11_apart_10 : decode cX11_apart 10 = .ok (.invokevirtual 129, 3) := by decide +kernel
theorem dX11_apart_13 : decode cX11_apart 13 = .ok (.ifCond .eq 8, 3) := by decide +kernel
theorem dX11_apart_16 : decode cX11_apart 16 = .ok (.iload_n 1, 1) := by decide +kernel
theorem dX11_apart_17 : decode cX11_apart 17 = .ok (.iload_n 2, 1) := by decide +kernel
theorem dX11_apart_18 : decode cX11_apart 18 = .ok (.if_icmp .ne 9, 3) := by decide +kernel
theorem dX11_apart_21 : decode cX11_apart 21 = .ok (.aload_n 0, 1) := by decide +kernel
theorem dX11_apart_22 : decode cX11_apart 22 = .ok (.iconst 1, 1) := by decide +kernel
theorem dX11_apart_23 : decode cX11_apart 23 = .ok (.invokevirtual 75, 3) := by decide +kernel
theorem dX11_apart_26 : decode cX11_apart 26 = .ok (.ireturn, 1) := by decide +kernel
theorem dX11_apart_27 : decode cX11_apart 27 = .ok (.iconst 0, 1) := by decide +kernel
theorem dX11_apart_28 : decode cX11_apart 28 = .ok (.istore_n 3, 1) := by decide +kernel
theorem dX11_apart_29 : decode cX11_apart 29 = .ok (.iconst 0, 1) := by decide +kernel
theorem dX11_apart_30 : decode cX11_apart 30 = .ok (.istore 4, 2) := by decide +kernel
theorem dX11_apart_32 : decode cX11_apart 32 = .ok (.iload 4, 2) := by decide +kernel
theorem dX11_apart_34 : decode cX11_apart 34 = .ok (.aload_n 0, 1) := by decide +kernel
theorem dX11_apart_35 : decode cX11_apart 35 = .ok (.getfield 20, 3) := by decide +kernel
theorem dX11_apart_38 : decode cX11_apart 38 = .ok (.getfield 201, 3) := by decide +kernel
theorem dX11_apart_41 : decode cX11_apart 41 = .ok (.if_icmp .ge 51, 3) := by decide +kernel
theorem dX11_apart_44 : decode cX11_apart 44 = .ok (.aload_n 0, 1) := by decide +kernel
theorem dX11_apart_45 : decode cX11_apart 45 = .ok (.getfield 20, 3) := by decide +kernel
theorem dX11_apart_48 : decode cX11_apart 48 = .ok (.getfield 132, 3) := by decide +kernel
theorem dX11_apart_51 : decode cX11_apart 51 = .ok (.iload_n 1, 1) := by decide +kernel
theorem dX11_apart_52 : decode cX11_apart 52 = .ok (.aaload, 1) := by decide +kernel
theorem dX11_apart_53 : decode cX11_apart 53 = .ok (.aload_n 0, 1) := by decide +kernel
theorem dX11_apart_54 : decode cX11_apart 54 = .ok (.getfield 20, 3) := by decide +kernel
theorem dX11_apart_57 : decode cX11_apart 57 = .ok (.getfield 132, 3) := by decide +kernel
theorem dX11_apart_60 : decode cX11_apart 60 = .ok (.iload_n 2, 1) := by decide +kernel
theorem dX11_apart_61 : decode cX11_apart 61 = .ok (.aaload, 1) := by decide +kernel
theorem dX11_apart_62 : decode cX11_apart 62 = .ok (.aload_n 0, 1) := by decide +kernel
theorem dX11_apart_63 : decode cX11_apart 63 = .ok (.getfield 20, 3) := by decide +kernel
theorem dX11_apart_66 : decode cX11_apart 66 = .ok (.getfield 112, 3) := by decide +kernel
theorem dX11_apart_69 : decode cX11_apart 69 = .ok (.iload 4, 2) := by decide +kernel
theorem dX11_apart_71 : decode cX11_apart 71 = .ok (.iaload, 1) := by decide +kernel
theorem dX11_apart_72 : decode cX11_apart 72 = .ok (.iconst 1, 1) := by decide +kernel
theorem dX11_apart_73 : decode cX11_apart 73 = .ok (.invokevirtual 237, 3) := by decide +kernel
theorem dX11_apart_76 : decode cX11_apart 76 = .ok (.ifCond .ne 10, 3) := by decide +kernel
theorem dX11_apart_79 : decode cX11_apart 79 = .ok (.iload_n 3, 1) := by decide +kernel
theorem dX11_apart_80 : decode cX11_apart 80 = .ok (.iconst 1, 1) := by decide +kernel
theorem dX11_apart_81 : decode cX11_apart 81 = .ok (.iload 4, 2) := by decide +kernel
theorem dX11_apart_83 : decode cX11_apart 83 = .ok (.ishl, 1) := by decide +kernel
theorem dX11_apart_84 : decode cX11_apart 84 = .ok (.ior, 1) := by decide +kernel
theorem dX11_apart_85 : decode cX11_apart 85 = .ok (.istore_n 3, 1) := by decide +kernel
theorem dX11_apart_86 : decode cX11_apart 86 = .ok (.iinc 4 1, 3) := by decide +kernel
theorem dX11_apart_89 : decode cX11_apart 89 = .ok (.goto (-57), 3) := by decide +kernel
theorem dX11_apart_92 : decode cX11_apart 92 = .ok (.aload_n 0, 1) := by decide +kernel
theorem dX11_apart_93 : decode cX11_apart 93 = .ok (.iload_n 3, 1) := by decide +kernel
theorem dX11_apart_94 : decode cX11_apart 94 = .ok (.invokevirtual 105, 3) := by decide +kernel
theorem dX11_apart_97 : decode cX11_apart 97 = .ok (.ireturn, 1) := by decide +kernel
theorem dX11_tells_0 : decode cX11_tells 0 = .ok (.aload_n 0, 1) := by decide +kernel
theorem dX11_tells_1 : decode cX11_tells 1 = .ok (.getfield 20, 3) := by decide +kernel
theorem dX11_tells_4 : decode cX11_tells 4 = .ok (.getfield 178, 3) := by decide +kernel
theorem dX11_tells_7 : decode cX11_tells 7 = .ok (.ifCond .ne 9, 3) := by decide +kernel
theorem dX11_tells_10 : decode cX11_tells 10 = .ok (.aload_n 0, 1) := by decide +kernel
theorem dX11_tells_11 : decode cX11_tells 11 = .ok (.iconst 1, 1) := by decide +kernel
theorem dX11_tells_12 : decode cX11_tells 12 = .ok (.invokevirtual 75, 3) := by decide +kernel
theorem dX11_tells_15 : decode cX11_tells 15 = .ok (.ireturn, 1) := by decide +kernel
theorem dX11_tells_16 : decode cX11_tells 16 = .ok (.iconst 0, 1) := by decide +kernel
theorem dX11_tells_17 : decode cX11_tells 17 = .ok (.istore_n 1, 1) := by decide +kernel
theorem dX11_tells_18 : decode cX11_tells 18 = .ok (.iload_n 1, 1) := by decide +kernel
theorem dX11_tells_19 : decode cX11_tells 19 = .ok (.iconst 3, 1) := by decide +kernel
theorem dX11_tells_20 : decode cX11_tells 20 = .ok (.if_icmp .gt 48, 3) := by decide +kernel
theorem dX11_tells_23 : decode cX11_tells 23 = .ok (.iconst 0, 1) := by decide +kernel
theorem dX11_tells_24 : decode cX11_tells 24 = .ok (.istore_n 2, 1) := by decide +kernel
theorem dX11_tells_25 : decode cX11_tells 25 = .ok (.iload_n 2, 1) := by decide +kernel
theorem dX11_tells_26 : decode cX11_tells 26 = .ok (.bipush 7, 2) := by decide +kernel
theorem dX11_tells_28 : decode cX11_tells 28 = .ok (.if_icmp .gt 34, 3) := by decide +kernel
theorem dX11_tells_31 : decode cX11_tells 31 = .ok (.iload_n 2, 1) := by decide +kernel
theorem dX11_tells_32 : decode cX11_tells 32 = .ok (.invokestatic 196, 3) := by decide +kernel
theorem dX11_tells_35 : decode cX11_tells 35 = .ok (.iload_n 1, 1) := by decide +kernel
theorem dX11_tells_36 : decode cX11_tells 36 = .ok (.if_icmp .ne 20, 3) := by decide +kernel
theorem dX11_tells_39 : decode cX11_tells 39 = .ok (.aload_n 0, 1) := by decide +kernel
theorem dX11_tells_40 : decode cX11_tells 40 = .ok (.getfield 20, 3) := by decide +kernel
theorem dX11_tells_43 : decode cX11_tells 43 = .ok (.iload_n 2, 1) := by decide +kernel
theorem dX11_tells_44 : decode cX11_tells 44 = .ok (.invokevirtual 241, 3) := by decide +kernel
theorem dX11_tells_47 : decode cX11_tells 47 = .ok (.ifCond .eq 9, 3) := by decide +kernel
theorem dX11_tells_50 : decode cX11_tells 50 = .ok (.aload_n 0, 1) := by decide +kernel
theorem dX11_tells_51 : decode cX11_tells 51 = .ok (.iload_n 2, 1) := by decide +kernel
theorem dX11_tells_52 : decode cX11_tells 52 = .ok (.invokevirtual 105, 3) := by decide +kernel
theorem dX11_tells_55 : decode cX11_tells 55 = .ok (.ireturn, 1) := by decide +kernel
theorem dX11_tells_56 : decode cX11_tells 56 = .ok (.iinc 2 1, 3) := by decide +kernel
theorem dX11_tells_59 : decode cX11_tells 59 = .ok (.goto (-34), 3) := by decide +kernel
theorem dX11_tells_62 : decode cX11_tells 62 = .ok (.iinc 1 1, 3) := by decide +kernel
theorem dX11_tells_65 : decode cX11_tells 65 = .ok (.goto (-47), 3) := by decide +kernel
theorem dX11_tells_68 : decode cX11_tells 68 = .ok (.aload_n 0, 1) := by decide +kernel
theorem dX11_tells_69 : decode cX11_tells 69 = .ok (.bipush (-2), 2) := by decide +kernel
theorem dX11_tells_71 : decode cX11_tells 71 = .ok (.invokevirtual 105, 3) := by decide +kernel
theorem dX11_tells_74 : decode cX11_tells 74 = .ok (.ireturn, 1) := by decide +kernel
theorem dX11_another_0 : decode cX11_another 0 = .ok (.aload_n 0, 1) := by decide +kernel
theorem dX11_another_1 : decode cX11_another 1 = .ok (.getfield 20, 3) := by decide +kernel
theorem dX11_another_4 : decode cX11_another 4 = .ok (.getfield 178, 3) := by decide +kernel
theorem dX11_another_7 : decode cX11_another 7 = .ok (.ifCond .ne 9, 3) := by decide +kernel
theorem dX11_another_10 : decode cX11_another 10 = .ok (.aload_n 0, 1) := by decide +kernel
theorem dX11_another_11 : decode cX11_another 11 = .ok (.iconst 1, 1) := by decide +kernel
theorem dX11_another_12 : decode cX11_another 12 = .ok (.invokevirtual 75, 3) := by decide +kernel
theorem dX11_another_15 : decode cX11_another 15 = .ok (.ireturn, 1) := by decide +kernel
theorem dX11_another_16 : decode cX11_another 16 = .ok (.iload_n 1, 1) := by decide +kernel
theorem dX11_another_17 : decode cX11_another 17 = .ok (.bipush 10, 2) := by decide +kernel
theorem dX11_another_19 : decode cX11_another 19 = .ok (.if_icmp .lt 9, 3) := by decide +kernel
theorem dX11_another_22 : decode cX11_another 22 = .ok (.iload_n 1, 1) := by decide +kernel
theorem dX11_another_23 : decode cX11_another 23 = .ok (.bipush 59, 2) := by decide +kernel
theorem dX11_another_25 : decode cX11_another 25 = .ok (.if_icmp .le 9, 3) := by decide +kernel
theorem dX11_another_28 : decode cX11_another 28 = .ok (.aload_n 0, 1) := by decide +kernel
theorem dX11_another_29 : decode cX11_another 29 = .ok (.iconst 2, 1) := by decide +kernel
theorem dX11_another_30 : decode cX11_another 30 = .ok (.invokevirtual 75, 3) := by decide +kernel
theorem dX11_another_33 : decode cX11_another 33 = .ok (.ireturn, 1) := by decide +kernel
theorem dX11_another_34 : decode cX11_another 34 = .ok (.aload_n 0, 1) := by decide +kernel
theorem dX11_another_35 : decode cX11_another 35 = .ok (.aload_n 0, 1) := by decide +kernel
theorem dX11_another_36 : decode cX11_another 36 = .ok (.getfield 20, 3) := by decide +kernel
theorem dX11_another_39 : decode cX11_another 39 = .ok (.iload_n 1, 1) := by decide +kernel
theorem dX11_another_40 : decode cX11_another 40 = .ok (.invokevirtual 244, 3) := by decide +kernel
theorem dX11_another_43 : decode cX11_another 43 = .ok (.invokevirtual 105, 3) := by decide +kernel
theorem dX11_another_46 : decode cX11_another 46 = .ok (.ireturn, 1) := by decide +kernel
theorem dX11_leastSill_0 : decode cX11_leastSill 0 = .ok (.aload_n 0, 1) := by decide +kernel
theorem dX11_leastSill_1 : decode cX11_leastSill 1 = .ok (.getfield 20, 3) := by decide +kernel
theorem dX11_leastSill_4 : decode cX11_leastSill 4 = .ok (.getfield 178, 3) := by decide +kernel
theorem dX11_leastSill_7 : decode cX11_leastSill 7 = .ok (.ifCond .ne 9, 3) := by decide +kernel
theorem dX11_leastSill_10 : decode cX11_leastSill 10 = .ok (.aload_n 0, 1) := by decide +kernel
theorem dX11_leastSill_11 : decode cX11_leastSill 11 = .ok (.iconst 1, 1) := by decide +kernel
theorem dX11_leastSill_12 : decode cX11_leastSill 12 = .ok (.invokevirtual 75, 3) := by decide +kernel
theorem dX11_leastSill_15 : decode cX11_leastSill 15 = .ok (.ireturn, 1) := by decide +kernel
theorem dX11_leastSill_16 : decode cX11_leastSill 16 = .ok (.bipush 10, 2) := by decide +kernel
theorem dX11_leastSill_18 : decode cX11_leastSill 18 = .ok (.istore_n 1, 1) := by decide +kernel
theorem dX11_leastSill_19 : decode cX11_leastSill 19 = .ok (.iload_n 1, 1) := by decide +kernel
theorem dX11_leastSill_20 : decode cX11_leastSill 20 = .ok (.bipush 59, 2) := by decide +kernel
theorem dX11_leastSill_22 : decode cX11_leastSill 22 = .ok (.if_icmp .gt 26, 3) := by decide +kernel
theorem dX11_leastSill_25 : decode cX11_leastSill 25 = .ok (.aload_n 0, 1) := by decide +kernel
theorem dX11_leastSill_26 : decode cX11_leastSill 26 = .ok (.getfield 20, 3) := by decide +kernel
theorem dX11_leastSill_29 : decode cX11_leastSill 29 = .ok (.iload_n 1, 1) := by decide +kernel
theorem dX11_leastSill_30 : decode cX11_leastSill 30 = .ok (.invokevirtual 244, 3) := by decide +kernel
theorem dX11_leastSill_33 : decode cX11_leastSill 33 = .ok (.ifCond .ne 9, 3) := by decide +kernel
theorem dX11_leastSill_36 : decode cX11_leastSill 36 = .ok (.aload_n 0, 1) := by decide +kernel
theorem dX11_leastSill_37 : decode cX11_leastSill 37 = .ok (.iload_n 1, 1) := by decide +kernel
theorem dX11_leastSill_38 : decode cX11_leastSill 38 = .ok (.invokevirtual 105, 3) := by decide +kernel
theorem dX11_leastSill_41 : decode cX11_leastSill 41 = .ok (.ireturn, 1) := by decide +kernel
theorem dX11_leastSill_42 : decode cX11_leastSill 42 = .ok (.iinc 1 1, 3) := by decide +kernel
theorem dX11_leastSill_45 : decode cX11_leastSill 45 = .ok (.goto (-26), 3) := by decide +kernel
theorem dX11_leastSill_48 : decode cX11_leastSill 48 = .ok (.aload_n 0, 1) := by decide +kernel
theorem dX11_leastSill_49 : decode cX11_leastSill 49 = .ok (.bipush (-2), 2) := by decide +kernel
theorem dX11_leastSill_51 : decode cX11_leastSill 51 = .ok (.invokevirtual 105, 3) := by decide +kernel
theorem dX11_leastSill_54 : decode cX11_leastSill 54 = .ok (.ireturn, 1) := by decide +kernel
theorem dX11_way_0 : decode cX11_way 0 = .ok (.aload_n 0, 1) := by decide +kernel
theorem dX11_way_1 : decode cX11_way 1 = .ok (.iload_n 1, 1) := by decide +kernel
theorem dX11_way_2 : decode cX11_way 2 = .ok (.invokevirtual 108, 3) := by decide +kernel
theorem dX11_way_5 : decode cX11_way 5 = .ok (.ifCond .eq 11, 3) := by decide +kernel
theorem dX11_way_8 : decode cX11_way 8 = .ok (.aload_n 0, 1) := by decide +kernel
theorem dX11_way_9 : decode cX11_way 9 = .ok (.iload_n 2, 1) := by decide +kernel
theorem dX11_way_10 : decode cX11_way 10 = .ok (.invokevirtual 108, 3) := by decide +kernel
theorem dX11_way_13 : decode cX11_way 13 = .ok (.ifCond .ne 9, 3) := by decide +kernel
theorem dX11_way_16 : decode cX11_way 16 = .ok (.aload_n 0, 1) := by decide +kernel
theorem dX11_way_17 : decode cX11_way 17 = .ok (.iconst 1, 1) := by decide +kernel
theorem dX11_way_18 : decode cX11_way 18 = .ok (.invokevirtual 75, 3) := by decide +kernel
theorem dX11_way_21 : decode cX11_way 21 = .ok (.ireturn, 1) := by decide +kernel
theorem dX11_way_22 : decode cX11_way 22 = .ok (.aload_n 0, 1) := by decide +kernel
theorem dX11_way_23 : decode cX11_way 23 = .ok (.getfield 20, 3) := by decide +kernel
theorem dX11_way_26 : decode cX11_way 26 = .ok (.getfield 89, 3) := by decide +kernel
theorem dX11_way_29 : decode cX11_way 29 = .ok (.iload_n 1, 1) := by decide +kernel
theorem dX11_way_30 : decode cX11_way 30 = .ok (.iload_n 2, 1) := by decide +kernel
theorem dX11_way_31 : decode cX11_way 31 = .ok (.invokevirtual 247, 3) := by decide +kernel
theorem dX11_way_34 : decode cX11_way 34 = .ok (.istore_n 3, 1) := by decide +kernel
theorem dX11_way_35 : decode cX11_way 35 = .ok (.aload_n 0, 1) := by decide +kernel
theorem dX11_way_36 : decode cX11_way 36 = .ok (.iload_n 3, 1) := by decide +kernel
theorem dX11_way_37 : decode cX11_way 37 = .ok (.ldc 250, 2) := by decide +kernel
theorem dX11_way_39 : decode cX11_way 39 = .ok (.if_icmp .ge 7, 3) := by decide +kernel
theorem dX11_way_42 : decode cX11_way 42 = .ok (.iload_n 3, 1) := by decide +kernel
theorem dX11_way_43 : decode cX11_way 43 = .ok (.goto 5, 3) := by decide +kernel
theorem dX11_way_46 : decode cX11_way 46 = .ok (.bipush (-2), 2) := by decide +kernel
theorem dX11_way_48 : decode cX11_way 48 = .ok (.invokevirtual 105, 3) := by decide +kernel
theorem dX11_way_51 : decode cX11_way 51 = .ok (.ireturn, 1) := by decide +kernel
theorem dX11_wayAt_0 : decode cX11_wayAt 0 = .ok (.aload_n 0, 1) := by decide +kernel
theorem dX11_wayAt_1 : decode cX11_wayAt 1 = .ok (.iload_n 1, 1) := by decide +kernel
theorem dX11_wayAt_2 : decode cX11_wayAt 2 = .ok (.invokevirtual 108, 3) := by decide +kernel
theorem dX11_wayAt_5 : decode cX11_wayAt 5 = .ok (.ifCond .eq 38, 3) := by decide +kernel
theorem dX11_wayAt_8 : decode cX11_wayAt 8 = .ok (.aload_n 0, 1) := by decide +kernel
theorem dX11_wayAt_9 : decode cX11_wayAt 9 = .ok (.iload_n 2, 1) := by decide +kernel
theorem dX11_wayAt_10 : decode cX11_wayAt 10 = .ok (.invokevirtual 108, 3) := by decide +kernel
theorem dX11_wayAt_13 : decode cX11_wayAt 13 = .ok (.ifCond .eq 30, 3) := by decide +kernel
theorem dX11_wayAt_16 : decode cX11_wayAt 16 = .ok (.iload_n 3, 1) := by decide +kernel
theorem dX11_wayAt_17 : decode cX11_wayAt 17 = .ok (.ifCond .lt 26, 3) := by decide +kernel
theorem dX11_wayAt_20 : decode cX11_wayAt 20 = .ok (.iload_n 3, 1) := by decide +kernel
theorem dX11_wayAt_21 : decode cX11_wayAt 21 = .ok (.bipush 6, 2) := by decide +kernel
theorem dX11_wayAt_23 : decode cX11_wayAt 23 = .ok (.if_icmp .ge 20, 3) := by decide +kernel
theorem dX11_wayAt_26 : decode cX11_wayAt 26 = .ok (.aload_n 0, 1) := by decide +kernel
theorem dX11_wayAt_27 : decode cX11_wayAt 27 = .ok (.getfield 20, 3) := by decide +kernel
theorem dX11_wayAt_30 : decode cX11_wayAt 30 = .ok (.getfield 89, 3) := by decide +kernel
theorem dX11_wayAt_33 : decode cX11_wayAt 33 = .ok (.iload_n 1, 1) := by decide +kernel
theorem dX11_wayAt_34 : decode cX11_wayAt 34 = .ok (.iload_n 2, 1) := by decide +kernel
theorem dX11_wayAt_35 : decode cX11_wayAt 35 = .ok (.invokevirtual 247, 3) := by decide +kernel
theorem dX11_wayAt_38 : decode cX11_wayAt 38 = .ok (.ldc 250, 2) := by decide +kernel
theorem dX11_wayAt_40 : decode cX11_wayAt 40 = .ok (.if_icmp .lt 9, 3) := by decide +kernel
theorem dX11_wayAt_43 : decode cX11_wayAt 43 = .ok (.aload_n 0, 1) := by decide +kernel
theorem dX11_wayAt_44 : decode cX11_wayAt 44 = .ok (.iconst 1, 1) := by decide +kernel
theorem dX11_wayAt_45 : decode cX11_wayAt 45 = .ok (.invokevirtual 75, 3) := by decide +kernel
theorem dX11_wayAt_48 : decode cX11_wayAt 48 = .ok (.ireturn, 1) := by decide +kernel
theorem dX11_wayAt_49 : decode cX11_wayAt 49 = .ok (.iload_n 1, 1) := by decide +kernel
theorem dX11_wayAt_50 : decode cX11_wayAt 50 = .ok (.istore 4, 2) := by decide +kernel
theorem dX11_wayAt_52 : decode cX11_wayAt 52 = .ok (.iconst 0, 1) := by decide +kernel
theorem dX11_wayAt_53 : decode cX11_wayAt 53 = .ok (.istore 5, 2) := by decide +kernel
theorem dX11_wayAt_55 : decode cX11_wayAt 55 = .ok (.iload 5, 2) := by decide +kernel
theorem dX11_wayAt_57 : decode cX11_wayAt 57 = .ok (.iload_n 3, 1) := by decide +kernel
theorem dX11_wayAt_58 : decode cX11_wayAt 58 = .ok (.if_icmp .ge 36, 3) := by decide +kernel
theorem dX11_wayAt_61 : decode cX11_wayAt 61 = .ok (.aload_n 0, 1) := by decide +kernel
theorem dX11_wayAt_62 : decode cX11_wayAt 62 = .ok (.getfield 20, 3) := by decide +kernel
theorem dX11_wayAt_65 : decode cX11_wayAt 65 = .ok (.getfield 89, 3) := by decide +kernel
theorem dX11_wayAt_68 : decode cX11_wayAt 68 = .ok (.iload 4, 2) := by decide +kernel
theorem dX11_wayAt_70 : decode cX11_wayAt 70 = .ok (.iload_n 2, 1) := by decide +kernel
theorem dX11_wayAt_71 : decode cX11_wayAt 71 = .ok (.invokevirtual 251, 3) := by decide +kernel
theorem dX11_wayAt_74 : decode cX11_wayAt 74 = .ok (.istore 4, 2) := by decide +kernel
theorem dX11_wayAt_76 : decode cX11_wayAt 76 = .ok (.iload 4, 2) := by decide +kernel
theorem dX11_wayAt_78 : decode cX11_wayAt 78 = .ok (.iconst (-1), 1) := by decide +kernel
theorem dX11_wayAt_79 : decode cX11_wayAt 79 = .ok (.if_icmp .ne 9, 3) := by decide +kernel
theorem dX11_wayAt_82 : decode cX11_wayAt 82 = .ok (.aload_n 0, 1) := by decide +kernel
theorem dX11_wayAt_83 : decode cX11_wayAt 83 = .ok (.iconst 1, 1) := by decide +kernel
theorem dX11_wayAt_84 : decode cX11_wayAt 84 = .ok (.invokevirtual 75, 3) := by decide +kernel
theorem dX11_wayAt_87 : decode cX11_wayAt 87 = .ok (.ireturn, 1) := by decide +kernel
theorem dX11_wayAt_88 : decode cX11_wayAt 88 = .ok (.iinc 5 1, 3) := by decide +kernel
theorem dX11_wayAt_91 : decode cX11_wayAt 91 = .ok (.goto (-36), 3) := by decide +kernel
theorem dX11_wayAt_94 : decode cX11_wayAt 94 = .ok (.aload_n 0, 1) := by decide +kernel
theorem dX11_wayAt_95 : decode cX11_wayAt 95 = .ok (.iload 4, 2) := by decide +kernel
theorem dX11_wayAt_97 : decode cX11_wayAt 97 = .ok (.invokevirtual 105, 3) := by decide +kernel
theorem dX11_wayAt_100 : decode cX11_wayAt 100 = .ok (.ireturn, 1) := by decide +kernel
theorem dX11_carried_0 : decode cX11_carried 0 = .ok (.aload_n 0, 1) := by decide +kernel
theorem dX11_carried_1 : decode cX11_carried 1 = .ok (.getfield 20, 3) := by decide +kernel
theorem dX11_carried_4 : decode cX11_carried 4 = .ok (.getfield 178, 3) := by decide +kernel
theorem dX11_carried_7 : decode cX11_carried 7 = .ok (.ifCond .ne 9, 3) := by decide +kernel
theorem dX11_carried_10 : decode cX11_carried 10 = .ok (.aload_n 0, 1) := by decide +kernel
theorem dX11_carried_11 : decode cX11_carried 11 = .ok (.iconst 1, 1) := by decide +kernel
theorem dX11_carried_12 : decode cX11_carried 12 = .ok (.invokevirtual 75, 3) := by decide +kernel
theorem dX11_carried_15 : decode cX11_carried 15 = .ok (.ireturn, 1) := by decide +kernel
theorem dX11_carried_16 : decode cX11_carried 16 = .ok (.aload_n 0, 1) := by decide +kernel
theorem dX11_carried_17 : decode cX11_carried 17 = .ok (.getfield 44, 3) := by decide +kernel
theorem dX11_carried_20 : decode cX11_carried 20 = .ok (.aload_n 0, 1) := by decide +kernel
theorem dX11_carried_21 : decode cX11_carried 21 = .ok (.getfield 20, 3) := by decide +kernel
theorem dX11_carried_24 : decode cX11_carried 24 = .ok (.aload_n 0, 1) := by decide +kernel
theorem dX11_carried_25 : decode cX11_carried 25 = .ok (.getfield 37, 3) := by decide +kernel
theorem dX11_carried_28 : decode cX11_carried 28 = .ok (.invokevirtual 254, 3) := by decide +kernel
theorem dX11_carried_31 : decode cX11_carried 31 = .ok (.istore_n 1, 1) := by decide +kernel
theorem dX11_carried_32 : decode cX11_carried 32 = .ok (.aload_n 0, 1) := by decide +kernel
theorem dX11_carried_33 : decode cX11_carried 33 = .ok (.iload_n 1, 1) := by decide +kernel
theorem dX11_carried_34 : decode cX11_carried 34 = .ok (.ldc 250, 2) := by decide +kernel
theorem dX11_carried_36 : decode cX11_carried 36 = .ok (.if_icmp .ge 7, 3) := by decide +kernel
theorem dX11_carried_39 : decode cX11_carried 39 = .ok (.iload_n 1, 1) := by decide +kernel
theorem dX11_carried_40 : decode cX11_carried 40 = .ok (.goto 5, 3) := by decide +kernel
theorem dX11_carried_43 : decode cX11_carried 43 = .ok (.bipush (-2), 2) := by decide +kernel
theorem dX11_carried_45 : decode cX11_carried 45 = .ok (.invokevirtual 105, 3) := by decide +kernel
theorem dX11_carried_48 : decode cX11_carried 48 = .ok (.ireturn, 1) := by decide +kernel
theorem dX11_carrier_0 : decode cX11_carrier 0 = .ok (.aload_n 0, 1) := by decide +kernel
theorem dX11_carrier_1 : decode cX11_carrier 1 = .ok (.iload_n 1, 1) := by decide +kernel
theorem dX11_carrier_2 : decode cX11_carrier 2 = .ok (.invokevirtual 157, 3) := by decide +kernel
theorem dX11_carrier_5 : decode cX11_carrier 5 = .ok (.ifCond .ne 9, 3) := by decide +kernel
theorem dX11_carrier_8 : decode cX11_carrier 8 = .ok (.aload_n 0, 1) := by decide +kernel
theorem dX11_carrier_9 : decode cX11_carrier 9 = .ok (.iconst 1, 1) := by decide +kernel
theorem dX11_carrier_10 : decode cX11_carrier 10 = .ok (.invokevirtual 75, 3) := by decide +kernel
theorem dX11_carrier_13 : decode cX11_carrier 13 = .ok (.ireturn, 1) := by decide +kernel
theorem dX11_carrier_14 : decode cX11_carrier 14 = .ok (.aload_n 0, 1) := by decide +kernel
theorem dX11_carrier_15 : decode cX11_carrier 15 = .ok (.getfield 44, 3) := by decide +kernel
theorem dX11_carrier_18 : decode cX11_carrier 18 = .ok (.aload_n 0, 1) := by decide +kernel
theorem dX11_carrier_19 : decode cX11_carrier 19 = .ok (.getfield 20, 3) := by decide +kernel
theorem dX11_carrier_22 : decode cX11_carrier 22 = .ok (.aload_n 0, 1) := by decide +kernel
theorem dX11_carrier_23 : decode cX11_carrier 23 = .ok (.getfield 37, 3) := by decide +kernel
theorem dX11_carrier_26 : decode cX11_carrier 26 = .ok (.invokevirtual 254, 3) := by decide +kernel
theorem dX11_carrier_29 : decode cX11_carrier 29 = .ok (.ldc 250, 2) := by decide +kernel
theorem dX11_carrier_31 : decode cX11_carrier 31 = .ok (.if_icmp .lt 10, 3) := by decide +kernel
theorem dX11_carrier_34 : decode cX11_carrier 34 = .ok (.aload_n 0, 1) := by decide +kernel
theorem dX11_carrier_35 : decode cX11_carrier 35 = .ok (.bipush 6, 2) := by decide +kernel
theorem dX11_carrier_37 : decode cX11_carrier 37 = .ok (.invokevirtual 75, 3) := by decide +kernel
theorem dX11_carrier_40 : decode cX11_carrier 40 = .ok (.ireturn, 1) := by decide +kernel
theorem dX11_carrier_41 : decode cX11_carrier 41 = .ok (.aload_n 0, 1) := by decide +kernel
theorem dX11_carrier_42 : decode cX11_carrier 42 = .ok (.aload_n 0, 1) := by decide +kernel
theorem dX11_carrier_43 : decode cX11_carrier 43 = .ok (.getfield 44, 3) := by decide +kernel
theorem dX11_carrier_46 : decode cX11_carrier 46 = .ok (.getfield 258, 3) := by decide +kernel
theorem dX11_carrier_49 : decode cX11_carrier 49 = .ok (.iload_n 1, 1) := by decide +kernel
theorem dX11_carrier_50 : decode cX11_carrier 50 = .ok (.iaload, 1) := by decide +kernel
theorem dX11_carrier_51 : decode cX11_carrier 51 = .ok (.invokevirtual 105, 3) := by decide +kernel
theorem dX11_carrier_54 : decode cX11_carrier 54 = .ok (.ireturn, 1) := by decide +kernel
theorem dX11_alone_0 : decode cX11_alone 0 = .ok (.aload_n 0, 1) := by decide +kernel
theorem dX11_alone_1 : decode cX11_alone 1 = .ok (.iload_n 1, 1) := by decide +kernel
theorem dX11_alone_2 : decode cX11_alone 2 = .ok (.invokevirtual 129, 3) := by decide +kernel
theorem dX11_alone_5 : decode cX11_alone 5 = .ok (.ifCond .eq 19, 3) := by decide +kernel
theorem dX11_alone_8 : decode cX11_alone 8 = .ok (.aload_n 0, 1) := by decide +kernel
theorem dX11_alone_9 : decode cX11_alone 9 = .ok (.getfield 20, 3) := by decide +kernel
theorem dX11_alone_12 : decode cX11_alone 12 = .ok (.getfield 132, 3) := by decide +kernel
theorem dX11_alone_15 : decode cX11_alone 15 = .ok (.iload_n 1, 1) := by decide +kernel
theorem dX11_alone_16 : decode cX11_alone 16 = .ok (.aaload, 1) := by decide +kernel
theorem dX11_alone_17 : decode cX11_alone 17 = .ok (.getfield 136, 3) := by decide +kernel
theorem dX11_alone_20 : decode cX11_alone 20 = .ok (.iconst 1, 1) := by decide +kernel
theorem dX11_alone_21 : decode cX11_alone 21 = .ok (.if_icmp .eq 9, 3) := by decide +kernel
theorem dX11_alone_24 : decode cX11_alone 24 = .ok (.aload_n 0, 1) := by decide +kernel
theorem dX11_alone_25 : decode cX11_alone 25 = .ok (.iconst 1, 1) := by decide +kernel
theorem dX11_alone_26 : decode cX11_alone 26 = .ok (.invokevirtual 75, 3) := by decide +kernel
theorem dX11_alone_29 : decode cX11_alone 29 = .ok (.ireturn, 1) := by decide +kernel
theorem dX11_alone_30 : decode cX11_alone 30 = .ok (.aload_n 0, 1) := by decide +kernel
theorem dX11_alone_31 : decode cX11_alone 31 = .ok (.aload_n 0, 1) := by decide +kernel
theorem dX11_alone_32 : decode cX11_alone 32 = .ok (.getfield 44, 3) := by decide +kernel
theorem dX11_alone_35 : decode cX11_alone 35 = .ok (.aload_n 0, 1) := by decide +kernel
theorem dX11_alone_36 : decode cX11_alone 36 = .ok (.getfield 20, 3) := by decide +kernel
theorem dX11_alone_39 : decode cX11_alone 39 = .ok (.aload_n 0, 1) := by decide +kernel
theorem dX11_alone_40 : decode cX11_alone 40 = .ok (.getfield 37, 3) := by decide +kernel
theorem dX11_alone_43 : decode cX11_alone 43 = .ok (.iload_n 1, 1) := by decide +kernel
theorem dX11_alone_44 : decode cX11_alone 44 = .ok (.invokevirtual 261, 3) := by decide +kernel
theorem dX11_alone_47 : decode cX11_alone 47 = .ok (.invokevirtual 105, 3) := by decide +kernel
theorem dX11_alone_50 : decode cX11_alone 50 = .ok (.ireturn, 1) := by decide +kernel
theorem dX11_stuck_0 : decode cX11_stuck 0 = .ok (.aload_n 0, 1) := by decide +kernel
theorem dX11_stuck_1 : decode cX11_stuck 1 = .ok (.getfield 20, 3) := by decide +kernel
theorem dX11_stuck_4 : decode cX11_stuck 4 = .ok (.getfield 178, 3) := by decide +kernel
theorem dX11_stuck_7 : decode cX11_stuck 7 = .ok (.ifCond .ne 9, 3) := by decide +kernel
theorem dX11_stuck_10 : decode cX11_stuck 10 = .ok (.aload_n 0, 1) := by decide +kernel
theorem dX11_stuck_11 : decode cX11_stuck 11 = .ok (.iconst 1, 1) := by decide +kernel
theorem dX11_stuck_12 : decode cX11_stuck 12 = .ok (.invokevirtual 75, 3) := by decide +kernel
theorem dX11_stuck_15 : decode cX11_stuck 15 = .ok (.ireturn, 1) := by decide +kernel
theorem dX11_stuck_16 : decode cX11_stuck 16 = .ok (.aload_n 0, 1) := by decide +kernel
theorem dX11_stuck_17 : decode cX11_stuck 17 = .ok (.aload_n 0, 1) := by decide +kernel
theorem dX11_stuck_18 : decode cX11_stuck 18 = .ok (.getfield 44, 3) := by decide +kernel
theorem dX11_stuck_21 : decode cX11_stuck 21 = .ok (.aload_n 0, 1) := by decide +kernel
theorem dX11_stuck_22 : decode cX11_stuck 22 = .ok (.getfield 20, 3) := by decide +kernel
theorem dX11_stuck_25 : decode cX11_stuck 25 = .ok (.aload_n 0, 1) := by decide +kernel
theorem dX11_stuck_26 : decode cX11_stuck 26 = .ok (.getfield 37, 3) := by decide +kernel
theorem dX11_stuck_29 : decode cX11_stuck 29 = .ok (.invokevirtual 265, 3) := by decide +kernel
theorem dX11_stuck_32 : decode cX11_stuck 32 = .ok (.invokevirtual 105, 3) := by decide +kernel
theorem dX11_stuck_35 : decode cX11_stuck 35 = .ok (.ireturn, 1) := by decide +kernel
theorem dX11_hands_0 : decode cX11_hands 0 = .ok (.aload_n 0, 1) := by decide +kernel
theorem dX11_hands_1 : decode cX11_hands 1 = .ok (.iload_n 1, 1) := by decide +kernel
theorem dX11_hands_2 : decode cX11_hands 2 = .ok (.invokevirtual 157, 3) := by decide +kernel
theorem dX11_hands_5 : decode cX11_hands 5 = .ok (.ifCond .ne 9, 3) := by decide +kernel
theorem dX11_hands_8 : decode cX11_hands 8 = .ok (.aload_n 0, 1) := by decide +kernel
theorem dX11_hands_9 : decode cX11_hands 9 = .ok (.iconst 1, 1) := by decide +kernel
theorem dX11_hands_10 : decode cX11_hands 10 = .ok (.invokevirtual 75, 3) := by decide +kernel
theorem dX11_hands_13 : decode cX11_hands 13 = .ok (.ireturn, 1) := by decide +kernel
theorem dX11_hands_14 : decode cX11_hands 14 = .ok (.aload_n 0, 1) := by decide +kernel
theorem dX11_hands_15 : decode cX11_hands 15 = .ok (.getfield 20, 3) := by decide +kernel
theorem dX11_hands_18 : decode cX11_hands 18 = .ok (.aload_n 0, 1) := by decide +kernel
theorem dX11_hands_19 : decode cX11_hands 19 = .ok (.getfield 37, 3) := by decide +kernel
theorem dX11_hands_22 : decode cX11_hands 22 = .ok (.iload_n 1, 1) := by decide +kernel
theorem dX11_hands_23 : decode cX11_hands 23 = .ok (.invokevirtual 172, 3) := by decide +kernel
theorem dX11_hands_26 : decode cX11_hands 26 = .ok (.iload_n 1, 1) := by decide +kernel
theorem dX11_hands_27 : decode cX11_hands 27 = .ok (.invokevirtual 268, 3) := by decide +kernel
theorem dX11_hands_30 : decode cX11_hands 30 = .ok (.istore_n 2, 1) := by decide +kernel
theorem dX11_hands_31 : decode cX11_hands 31 = .ok (.aload_n 0, 1) := by decide +kernel
theorem dX11_hands_32 : decode cX11_hands 32 = .ok (.iload_n 2, 1) := by decide +kernel
theorem dX11_hands_33 : decode cX11_hands 33 = .ok (.ldc 250, 2) := by decide +kernel
theorem dX11_hands_35 : decode cX11_hands 35 = .ok (.if_icmp .ge 7, 3) := by decide +kernel
theorem dX11_hands_38 : decode cX11_hands 38 = .ok (.iload_n 2, 1) := by decide +kernel
theorem dX11_hands_39 : decode cX11_hands 39 = .ok (.goto 5, 3) := by decide +kernel
theorem dX11_hands_42 : decode cX11_hands 42 = .ok (.bipush (-2), 2) := by decide +kernel
theorem dX11_hands_44 : decode cX11_hands 44 = .ok (.invokevirtual 105, 3) := by decide +kernel
theorem dX11_hands_47 : decode cX11_hands 47 = .ok (.ireturn, 1) := by decide +kernel
theorem dX11_round_0 : decode cX11_round 0 = .ok (.aload_n 0, 1) := by decide +kernel
theorem dX11_round_1 : decode cX11_round 1 = .ok (.iload_n 1, 1) := by decide +kernel
theorem dX11_round_2 : decode cX11_round 2 = .ok (.invokevirtual 108, 3) := by decide +kernel
theorem dX11_round_5 : decode cX11_round 5 = .ok (.ifCond .ne 9, 3) := by decide +kernel
theorem dX11_round_8 : decode cX11_round 8 = .ok (.aload_n 0, 1) := by decide +kernel
theorem dX11_round_9 : decode cX11_round 9 = .ok (.iconst 1, 1) := by decide +kernel
theorem dX11_round_10 : decode cX11_round 10 = .ok (.invokevirtual 75, 3) := by decide +kernel
theorem dX11_round_13 : decode cX11_round 13 = .ok (.ireturn, 1) := by decide +kernel
theorem dX11_round_14 : decode cX11_round 14 = .ok (.aload_n 0, 1) := by decide +kernel
theorem dX11_round_15 : decode cX11_round 15 = .ok (.aload_n 0, 1) := by decide +kernel
theorem dX11_round_16 : decode cX11_round 16 = .ok (.getfield 20, 3) := by decide +kernel
theorem dX11_round_19 : decode cX11_round 19 = .ok (.getfield 89, 3) := by decide +kernel
theorem dX11_round_22 : decode cX11_round 22 = .ok (.iload_n 1, 1) := by decide +kernel
theorem dX11_round_23 : decode cX11_round 23 = .ok (.invokevirtual 271, 3) := by decide +kernel
theorem dX11_round_26 : decode cX11_round 26 = .ok (.invokevirtual 105, 3) := by decide +kernel
theorem dX11_round_29 : decode cX11_round 29 = .ok (.ireturn, 1) := by decide +kernel
theorem dX11_pieces_0 : decode cX11_pieces 0 = .ok (.aload_n 0, 1) := by decide +kernel
theorem dX11_pieces_1 : decode cX11_pieces 1 = .ok (.getfield 20, 3) := by decide +kernel
theorem dX11_pieces_4 : decode cX11_pieces 4 = .ok (.getfield 178, 3) := by decide +kernel
theorem dX11_pieces_7 : decode cX11_pieces 7 = .ok (.ifCond .ne 9, 3) := by decide +kernel
theorem dX11_pieces_10 : decode cX11_pieces 10 = .ok (.aload_n 0, 1) := by decide +kernel
theorem dX11_pieces_11 : decode cX11_pieces 11 = .ok (.iconst 1, 1) := by decide +kernel
theorem dX11_pieces_12 : decode cX11_pieces 12 = .ok (.invokevirtual 75, 3) := by decide +kernel
theorem dX11_pieces_15 : decode cX11_pieces 15 = .ok (.ireturn, 1) := by decide +kernel
theorem dX11_pieces_16 : decode cX11_pieces 16 = .ok (.iconst 0, 1) := by decide +kernel
theorem dX11_pieces_17 : decode cX11_pieces 17 = .ok (.istore_n 1, 1) := by decide +kernel
theorem dX11_pieces_18 : decode cX11_pieces 18 = .ok (.iconst 0, 1) := by decide +kernel
theorem dX11_pieces_19 : decode cX11_pieces 19 = .ok (.istore_n 2, 1) := by decide +kernel
theorem dX11_pieces_20 : decode cX11_pieces 20 = .ok (.iload_n 2, 1) := by decide +kernel
theorem dX11_pieces_21 : decode cX11_pieces 21 = .ok (.aload_n 0, 1) := by decide +kernel
theorem dX11_pieces_22 : decode cX11_pieces 22 = .ok (.getfield 20, 3) := by decide +kernel
theorem dX11_pieces_25 : decode cX11_pieces 25 = .ok (.getfield 123, 3) := by decide +kernel
theorem dX11_pieces_28 : decode cX11_pieces 28 = .ok (.if_icmp .ge 20, 3) := by decide +kernel
theorem dX11_pieces_31 : decode cX11_pieces 31 = .ok (.iload_n 1, 1) := by decide +kernel
theorem dX11_pieces_32 : decode cX11_pieces 32 = .ok (.aload_n 0, 1) := by decide +kernel
theorem dX11_pieces_33 : decode cX11_pieces 33 = .ok (.getfield 20, 3) := by decide +kernel
theorem dX11_pieces_36 : decode cX11_pieces 36 = .ok (.iload_n 2, 1) := by decide +kernel
theorem dX11_pieces_37 : decode cX11_pieces 37 = .ok (.invokevirtual 175, 3) := by decide +kernel
theorem dX11_pieces_40 : decode cX11_pieces 40 = .ok (.iadd, 1) := by decide +kernel
theorem dX11_pieces_41 : decode cX11_pieces 41 = .ok (.istore_n 1, 1) := by decide +kernel
theorem dX11_pieces_42 : decode cX11_pieces 42 = .ok (.iinc 2 1, 3) := by decide +kernel
theorem dX11_pieces_45 : decode cX11_pieces 45 = .ok (.goto (-25), 3) := by decide +kernel
theorem dX11_pieces_48 : decode cX11_pieces 48 = .ok (.aload_n 0, 1) := by decide +kernel
theorem dX11_pieces_49 : decode cX11_pieces 49 = .ok (.iload_n 1, 1) := by decide +kernel
theorem dX11_pieces_50 : decode cX11_pieces 50 = .ok (.invokevirtual 105, 3) := by decide +kernel
theorem dX11_pieces_53 : decode cX11_pieces 53 = .ok (.ireturn, 1) := by decide +kernel
theorem dX11_fits_0 : decode cX11_fits 0 = .ok (.aload_n 0, 1) := by decide +kernel
theorem dX11_fits_1 : decode cX11_fits 1 = .ok (.getfield 20, 3) := by decide +kernel
theorem dX11_fits_4 : decode cX11_fits 4 = .ok (.getfield 178, 3) := by decide +kernel
theorem dX11_fits_7 : decode cX11_fits 7 = .ok (.ifCond .ne 9, 3) := by decide +kernel
theorem dX11_fits_10 : decode cX11_fits 10 = .ok (.aload_n 0, 1) := by decide +kernel
theorem dX11_fits_11 : decode cX11_fits 11 = .ok (.iconst 1, 1) := by decide +kernel
theorem dX11_fits_12 : decode cX11_fits 12 = .ok (.invokevirtual 75, 3) := by decide +kernel
theorem dX11_fits_15 : decode cX11_fits 15 = .ok (.ireturn, 1) := by decide +kernel
theorem dX11_fits_16 : decode cX11_fits 16 = .ok (.aload_n 0, 1) := by decide +kernel
theorem dX11_fits_17 : decode cX11_fits 17 = .ok (.getfield 20, 3) := by decide +kernel
theorem dX11_fits_20 : decode cX11_fits 20 = .ok (.getfield 274, 3) := by decide +kernel
theorem dX11_fits_23 : decode cX11_fits 23 = .ok (.ifCond .ne 10, 3) := by decide +kernel
theorem dX11_fits_26 : decode cX11_fits 26 = .ok (.aload_n 0, 1) := by decide +kernel
theorem dX11_fits_27 : decode cX11_fits 27 = .ok (.bipush 6, 2) := by decide +kernel
theorem dX11_fits_29 : decode cX11_fits 29 = .ok (.invokevirtual 75, 3) := by decide +kernel
theorem dX11_fits_32 : decode cX11_fits 32 = .ok (.ireturn, 1) := by decide +kernel
theorem dX11_fits_33 : decode cX11_fits 33 = .ok (.aload_n 0, 1) := by decide +kernel
theorem dX11_fits_34 : decode cX11_fits 34 = .ok (.aload_n 0, 1) := by decide +kernel
theorem dX11_fits_35 : decode cX11_fits 35 = .ok (.getfield 51, 3) := by decide +kernel
theorem dX11_fits_38 : decode cX11_fits 38 = .ok (.aload_n 0, 1) := by decide +kernel
theorem dX11_fits_39 : decode cX11_fits 39 = .ok (.getfield 20, 3) := by decide +kernel
theorem dX11_fits_42 : decode cX11_fits 42 = .ok (.invokevirtual 277, 3) := by decide +kernel
theorem dX11_fits_45 : decode cX11_fits 45 = .ok (.invokevirtual 105, 3) := by decide +kernel
theorem dX11_fits_48 : decode cX11_fits 48 = .ok (.ireturn, 1) := by decide +kernel
theorem dX11_could_0 : decode cX11_could 0 = .ok (.aload_n 0, 1) := by decide +kernel
theorem dX11_could_1 : decode cX11_could 1 = .ok (.iload_n 1, 1) := by decide +kernel
theorem dX11_could_2 : decode cX11_could 2 = .ok (.invokevirtual 281, 3) := by decide +kernel
theorem dX11_could_5 : decode cX11_could 5 = .ok (.ifCond .ne 9, 3) := by decide +kernel
theorem dX11_could_8 : decode cX11_could 8 = .ok (.aload_n 0, 1) := by decide +kernel
theorem dX11_could_9 : decode cX11_could 9 = .ok (.iconst 1, 1) := by decide +kernel
theorem dX11_could_10 : decode cX11_could 10 = .ok (.invokevirtual 75, 3) := by decide +kernel
theorem dX11_could_13 : decode cX11_could 13 = .ok (.ireturn, 1) := by decide +kernel
theorem dX11_could_14 : decode cX11_could 14 = .ok (.aload_n 0, 1) := by decide +kernel
theorem dX11_could_15 : decode cX11_could 15 = .ok (.getfield 51, 3) := by decide +kernel
theorem dX11_could_18 : decode cX11_could 18 = .ok (.aload_n 0, 1) := by decide +kernel
theorem dX11_could_19 : decode cX11_could 19 = .ok (.getfield 20, 3) := by decide +kernel
theorem dX11_could_22 : decode cX11_could 22 = .ok (.invokevirtual 277, 3) := by decide +kernel
theorem dX11_could_25 : decode cX11_could 25 = .ok (.pop, 1) := by decide +kernel
theorem dX11_could_26 : decode cX11_could 26 = .ok (.aload_n 0, 1) := by decide +kernel
theorem dX11_could_27 : decode cX11_could 27 = .ok (.aload_n 0, 1) := by decide +kernel
theorem dX11_could_28 : decode cX11_could 28 = .ok (.getfield 51, 3) := by decide +kernel
theorem dX11_could_31 : decode cX11_could 31 = .ok (.iload_n 1, 1) := by decide +kernel
theorem dX11_could_32 : decode cX11_could 32 = .ok (.invokevirtual 284, 3) := by decide +kernel
theorem dX11_could_35 : decode cX11_could 35 = .ok (.invokevirtual 105, 3) := by decide +kernel
theorem dX11_could_38 : decode cX11_could 38 = .ok (.ireturn, 1) := by decide +kernel
theorem dX11_surely_0 : decode cX11_surely 0 = .ok (.aload_n 0, 1) := by decide +kernel
theorem dX11_surely_1 : decode cX11_surely 1 = .ok (.iload_n 1, 1) := by decide +kernel
theorem dX11_surely_2 : decode cX11_surely 2 = .ok (.invokevirtual 281, 3) := by decide +kernel
theorem dX11_surely_5 : decode cX11_surely 5 = .ok (.ifCond .ne 9, 3) := by decide +kernel
theorem dX11_surely_8 : decode cX11_surely 8 = .ok (.aload_n 0, 1) := by decide +kernel
theorem dX11_surely_9 : decode cX11_surely 9 = .ok (.iconst 1, 1) := by decide +kernel
theorem dX11_surely_10 : decode cX11_surely 10 = .ok (.invokevirtual 75, 3) := by decide +kernel
theorem dX11_surely_13 : decode cX11_surely 13 = .ok (.ireturn, 1) := by decide +kernel
theorem dX11_surely_14 : decode cX11_surely 14 = .ok (.aload_n 0, 1) := by decide +kernel
theorem dX11_surely_15 : decode cX11_surely 15 = .ok (.getfield 51, 3) := by decide +kernel
theorem dX11_surely_18 : decode cX11_surely 18 = .ok (.aload_n 0, 1) := by decide +kernel
theorem dX11_surely_19 : decode cX11_surely 19 = .ok (.getfield 20, 3) := by decide +kernel
theorem dX11_surely_22 : decode cX11_surely 22 = .ok (.invokevirtual 277, 3) := by decide +kernel
theorem dX11_surely_25 : decode cX11_surely 25 = .ok (.pop, 1) := by decide +kernel
theorem dX11_surely_26 : decode cX11_surely 26 = .ok (.aload_n 0, 1) := by decide +kernel
theorem dX11_surely_27 : decode cX11_surely 27 = .ok (.aload_n 0, 1) := by decide +kernel
theorem dX11_surely_28 : decode cX11_surely 28 = .ok (.getfield 51, 3) := by decide +kernel
theorem dX11_surely_31 : decode cX11_surely 31 = .ok (.iload_n 1, 1) := by decide +kernel
theorem dX11_surely_32 : decode cX11_surely 32 = .ok (.invokevirtual 287, 3) := by decide +kernel
theorem dX11_surely_35 : decode cX11_surely 35 = .ok (.invokevirtual 105, 3) := by decide +kernel
theorem dX11_surely_38 : decode cX11_surely 38 = .ok (.ireturn, 1) := by decide +kernel
theorem dX11_ask_0 : decode cX11_ask 0 = .ok (.aload_n 0, 1) := by decide +kernel
theorem dX11_ask_1 : decode cX11_ask 1 = .ok (.getfield 20, 3) := by decide +kernel
theorem dX11_ask_4 : decode cX11_ask 4 = .ok (.getfield 178, 3) := by decide +kernel
theorem dX11_ask_7 : decode cX11_ask 7 = .ok (.ifCond .ne 9, 3) := by decide +kernel
theorem dX11_ask_10 : decode cX11_ask 10 = .ok (.aload_n 0, 1) := by decide +kernel
theorem dX11_ask_11 : decode cX11_ask 11 = .ok (.iconst 1, 1) := by decide +kernel
theorem dX11_ask_12 : decode cX11_ask 12 = .ok (.invokevirtual 75, 3) := by decide +kernel
theorem dX11_ask_15 : decode cX11_ask 15 = .ok (.ireturn, 1) := by decide +kernel
theorem dX11_ask_16 : decode cX11_ask 16 = .ok (.aload_n 0, 1) := by decide +kernel
theorem dX11_ask_17 : decode cX11_ask 17 = .ok (.getfield 20, 3) := by decide +kernel
theorem dX11_ask_20 : decode cX11_ask 20 = .ok (.getfield 274, 3) := by decide +kernel
theorem dX11_ask_23 : decode cX11_ask 23 = .ok (.ifCond .ne 10, 3) := by decide +kernel
theorem dX11_ask_26 : decode cX11_ask 26 = .ok (.aload_n 0, 1) := by decide +kernel
theorem dX11_ask_27 : decode cX11_ask 27 = .ok (.bipush 6, 2) := by decide +kernel
theorem dX11_ask_29 : decode cX11_ask 29 = .ok (.invokevirtual 75, 3) := by decide +kernel
theorem dX11_ask_32 : decode cX11_ask 32 = .ok (.ireturn, 1) := by decide +kernel
theorem dX11_ask_33 : decode cX11_ask 33 = .ok (.aload_n 0, 1) := by decide +kernel
theorem dX11_ask_34 : decode cX11_ask 34 = .ok (.getfield 51, 3) := by decide +kernel
theorem dX11_ask_37 : decode cX11_ask 37 = .ok (.aload_n 0, 1) := by decide +kernel
theorem dX11_ask_38 : decode cX11_ask 38 = .ok (.getfield 20, 3) := by decide +kernel
theorem dX11_ask_41 : decode cX11_ask 41 = .ok (.invokevirtual 277, 3) := by decide +kernel
theorem dX11_ask_44 : decode cX11_ask 44 = .ok (.ifCond .ne 10, 3) := by decide +kernel
theorem dX11_ask_47 : decode cX11_ask 47 = .ok (.aload_n 0, 1) := by decide +kernel
theorem dX11_ask_48 : decode cX11_ask 48 = .ok (.bipush (-2), 2) := by decide +kernel
theorem dX11_ask_50 : decode cX11_ask 50 = .ok (.invokevirtual 105, 3) := by decide +kernel
theorem dX11_ask_53 : decode cX11_ask 53 = .ok (.ireturn, 1) := by decide +kernel
theorem dX11_ask_54 : decode cX11_ask 54 = .ok (.iconst 0, 1) := by decide +kernel
theorem dX11_ask_55 : decode cX11_ask 55 = .ok (.istore_n 1, 1) := by decide +kernel
theorem dX11_ask_56 : decode cX11_ask 56 = .ok (.iconst 1, 1) := by decide +kernel
theorem dX11_ask_57 : decode cX11_ask 57 = .ok (.istore_n 2, 1) := by decide +kernel
theorem dX11_ask_58 : decode cX11_ask 58 = .ok (.iload_n 2, 1) := by decide +kernel
theorem dX11_ask_59 : decode cX11_ask 59 = .ok (.aload_n 0, 1) := by decide +kernel
theorem dX11_ask_60 : decode cX11_ask 60 = .ok (.getfield 20, 3) := by decide +kernel
theorem dX11_ask_63 : decode cX11_ask 63 = .ok (.getfield 274, 3) := by decide +kernel
theorem dX11_ask_66 : decode cX11_ask 66 = .ok (.if_icmp .ge 30, 3) := by decide +kernel
theorem dX11_ask_69 : decode cX11_ask 69 = .ok (.aload_n 0, 1) := by decide +kernel
theorem dX11_ask_70 : decode cX11_ask 70 = .ok (.getfield 51, 3) := by decide +kernel
theorem dX11_ask_73 : decode cX11_ask 73 = .ok (.iload_n 2, 1) := by decide +kernel
theorem dX11_ask_74 : decode cX11_ask 74 = .ok (.invokevirtual 290, 3) := by decide +kernel
