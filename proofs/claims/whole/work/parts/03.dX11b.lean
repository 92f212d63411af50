theorem dX11_ask_77 : decode cX11_ask 77 = .ok (.aload_n 0, 1) := by decide +kernel
theorem dX11_ask_78 : decode cX11_ask 78 = .ok (.getfield 51, 3) := by decide +kernel
theorem dX11_ask_81 : decode cX11_ask 81 = .ok (.iload_n 1, 1) := by decide +kernel
theorem dX11_ask_82 : decode cX11_ask 82 = .ok (.invokevirtual 290, 3) := by decide +kernel
theorem dX11_ask_85 : decode cX11_ask 85 = .ok (.if_icmp .ge 5, 3) := by decide +kernel
theorem dX11_ask_88 : decode cX11_ask 88 = .ok (.iload_n 2, 1) := by decide +kernel
theorem dX11_ask_89 : decode cX11_ask 89 = .ok (.istore_n 1, 1) := by decide +kernel
theorem dX11_ask_90 : decode cX11_ask 90 = .ok (.iinc 2 1, 3) := by decide +kernel
theorem dX11_ask_93 : decode cX11_ask 93 = .ok (.goto (-35), 3) := by decide +kernel
theorem dX11_ask_96 : decode cX11_ask 96 = .ok (.aload_n 0, 1) := by decide +kernel
theorem dX11_ask_97 : decode cX11_ask 97 = .ok (.iload_n 1, 1) := by decide +kernel
theorem dX11_ask_98 : decode cX11_ask 98 = .ok (.invokevirtual 105, 3) := by decide +kernel
theorem dX11_ask_101 : decode cX11_ask 101 = .ok (.ireturn, 1) := by decide +kernel
theorem dX11_shop_0 : decode cX11_shop 0 = .ok (.aload_n 0, 1) := by decide +kernel
theorem dX11_shop_1 : decode cX11_shop 1 = .ok (.getfield 20, 3) := by decide +kernel
theorem dX11_shop_4 : decode cX11_shop 4 = .ok (.getfield 178, 3) := by decide +kernel
theorem dX11_shop_7 : decode cX11_shop 7 = .ok (.ifCond .ne 12, 3) := by decide +kernel
theorem dX11_shop_10 : decode cX11_shop 10 = .ok (.aload_n 0, 1) := by decide +kernel
theorem dX11_shop_11 : decode cX11_shop 11 = .ok (.iconst 1, 1) := by decide +kernel
theorem dX11_shop_12 : decode cX11_shop 12 = .ok (.invokevirtual 75, 3) := by decide +kernel
theorem dX11_shop_15 : decode cX11_shop 15 = .ok (.pop, 1) := by decide +kernel
theorem dX11_shop_16 : decode cX11_shop 16 = .ok (.bipush (-100), 2) := by decide +kernel
theorem dX11_shop_18 : decode cX11_shop 18 = .ok (.ireturn, 1) := by decide +kernel
theorem dX11_shop_19 : decode cX11_shop 19 = .ok (.iload_n 1, 1) := by decide +kernel
theorem dX11_shop_20 : decode cX11_shop 20 = .ok (.ifCond .lt 19, 3) := by decide +kernel
theorem dX11_shop_23 : decode cX11_shop 23 = .ok (.iload_n 1, 1) := by decide +kernel
theorem dX11_shop_24 : decode cX11_shop 24 = .ok (.bipush 6, 2) := by decide +kernel
theorem dX11_shop_26 : decode cX11_shop 26 = .ok (.if_icmp .ge 13, 3) := by decide +kernel
theorem dX11_shop_29 : decode cX11_shop 29 = .ok (.iload_n 2, 1) := by decide +kernel
theorem dX11_shop_30 : decode cX11_shop 30 = .ok (.ifCond .lt 9, 3) := by decide +kernel
theorem dX11_shop_33 : decode cX11_shop 33 = .ok (.iload_n 2, 1) := by decide +kernel
theorem dX11_shop_34 : decode cX11_shop 34 = .ok (.bipush 6, 2) := by decide +kernel
theorem dX11_shop_36 : decode cX11_shop 36 = .ok (.if_icmp .lt 12, 3) := by decide +kernel
theorem dX11_shop_39 : decode cX11_shop 39 = .ok (.aload_n 0, 1) := by decide +kernel
theorem dX11_shop_40 : decode cX11_shop 40 = .ok (.iconst 2, 1) := by decide +kernel
theorem dX11_shop_41 : decode cX11_shop 41 = .ok (.invokevirtual 75, 3) := by decide +kernel
theorem dX11_shop_44 : decode cX11_shop 44 = .ok (.pop, 1) := by decide +kernel
theorem dX11_shop_45 : decode cX11_shop 45 = .ok (.bipush (-100), 2) := by decide +kernel
theorem dX11_shop_47 : decode cX11_shop 47 = .ok (.ireturn, 1) := by decide +kernel
theorem dX11_shop_48 : decode cX11_shop 48 = .ok (.aload_n 0, 1) := by decide +kernel
theorem dX11_shop_49 : decode cX11_shop 49 = .ok (.iload_n 3, 1) := by decide +kernel
theorem dX11_shop_50 : decode cX11_shop 50 = .ok (.ifCond .eq 15, 3) := by decide +kernel
theorem dX11_shop_53 : decode cX11_shop 53 = .ok (.aload_n 0, 1) := by decide +kernel
theorem dX11_shop_54 : decode cX11_shop 54 = .ok (.getfield 20, 3) := by decide +kernel
theorem dX11_shop_57 : decode cX11_shop 57 = .ok (.iload_n 2, 1) := by decide +kernel
theorem dX11_shop_58 : decode cX11_shop 58 = .ok (.iload_n 1, 1) := by decide +kernel
theorem dX11_shop_59 : decode cX11_shop 59 = .ok (.invokestatic 293, 3) := by decide +kernel
theorem dX11_shop_62 : decode cX11_shop 62 = .ok (.goto 12, 3) := by decide +kernel
theorem dX11_shop_65 : decode cX11_shop 65 = .ok (.aload_n 0, 1) := by decide +kernel
theorem dX11_shop_66 : decode cX11_shop 66 = .ok (.getfield 20, 3) := by decide +kernel
theorem dX11_shop_69 : decode cX11_shop 69 = .ok (.iload_n 1, 1) := by decide +kernel
theorem dX11_shop_70 : decode cX11_shop 70 = .ok (.iload_n 2, 1) := by decide +kernel
theorem dX11_shop_71 : decode cX11_shop 71 = .ok (.invokestatic 293, 3) := by decide +kernel
theorem dX11_shop_74 : decode cX11_shop 74 = .ok (.invokevirtual 105, 3) := by decide +kernel
theorem dX11_shop_77 : decode cX11_shop 77 = .ok (.ireturn, 1) := by decide +kernel
theorem dX11_rests_0 : decode cX11_rests 0 = .ok (.aload_n 0, 1) := by decide +kernel
theorem dX11_rests_1 : decode cX11_rests 1 = .ok (.getfield 20, 3) := by decide +kernel
theorem dX11_rests_4 : decode cX11_rests 4 = .ok (.getfield 178, 3) := by decide +kernel
theorem dX11_rests_7 : decode cX11_rests 7 = .ok (.ifCond .ne 9, 3) := by decide +kernel
theorem dX11_rests_10 : decode cX11_rests 10 = .ok (.aload_n 0, 1) := by decide +kernel
theorem dX11_rests_11 : decode cX11_rests 11 = .ok (.iconst 1, 1) := by decide +kernel
theorem dX11_rests_12 : decode cX11_rests 12 = .ok (.invokevirtual 75, 3) := by decide +kernel
theorem dX11_rests_15 : decode cX11_rests 15 = .ok (.ireturn, 1) := by decide +kernel
theorem dX11_rests_16 : decode cX11_rests 16 = .ok (.aload_n 0, 1) := by decide +kernel
theorem dX11_rests_17 : decode cX11_rests 17 = .ok (.getfield 58, 3) := by decide +kernel
theorem dX11_rests_20 : decode cX11_rests 20 = .ok (.aload_n 0, 1) := by decide +kernel
theorem dX11_rests_21 : decode cX11_rests 21 = .ok (.getfield 20, 3) := by decide +kernel
theorem dX11_rests_24 : decode cX11_rests 24 = .ok (.invokevirtual 297, 3) := by decide +kernel
theorem dX11_rests_27 : decode cX11_rests 27 = .ok (.iconst 0, 1) := by decide +kernel
theorem dX11_rests_28 : decode cX11_rests 28 = .ok (.istore_n 1, 1) := by decide +kernel
theorem dX11_rests_29 : decode cX11_rests 29 = .ok (.iconst 0, 1) := by decide +kernel
theorem dX11_rests_30 : decode cX11_rests 30 = .ok (.istore_n 2, 1) := by decide +kernel
theorem dX11_rests_31 : decode cX11_rests 31 = .ok (.iload_n 2, 1) := by decide +kernel
theorem dX11_rests_32 : decode cX11_rests 32 = .ok (.bipush 6, 2) := by decide +kernel
theorem dX11_rests_34 : decode cX11_rests 34 = .ok (.if_icmp .ge 38, 3) := by decide +kernel
theorem dX11_rests_37 : decode cX11_rests 37 = .ok (.iconst 0, 1) := by decide +kernel
theorem dX11_rests_38 : decode cX11_rests 38 = .ok (.istore_n 3, 1) := by decide +kernel
theorem dX11_rests_39 : decode cX11_rests 39 = .ok (.iload_n 3, 1) := by decide +kernel
theorem dX11_rests_40 : decode cX11_rests 40 = .ok (.bipush 6, 2) := by decide +kernel
theorem dX11_rests_42 : decode cX11_rests 42 = .ok (.if_icmp .ge 24, 3) := by decide +kernel
theorem dX11_rests_45 : decode cX11_rests 45 = .ok (.aload_n 0, 1) := by decide +kernel
theorem dX11_rests_46 : decode cX11_rests 46 = .ok (.getfield 58, 3) := by decide +kernel
theorem dX11_rests_49 : decode cX11_rests 49 = .ok (.iload_n 2, 1) := by decide +kernel
theorem dX11_rests_50 : decode cX11_rests 50 = .ok (.iload_n 3, 1) := by decide +kernel
theorem dX11_rests_51 : decode cX11_rests 51 = .ok (.invokevirtual 300, 3) := by decide +kernel
theorem dX11_rests_54 : decode cX11_rests 54 = .ok (.ifCond .eq 6, 3) := by decide +kernel
theorem dX11_rests_57 : decode cX11_rests 57 = .ok (.iinc 1 1, 3) := by decide +kernel
theorem dX11_rests_60 : decode cX11_rests 60 = .ok (.iinc 3 1, 3) := by decide +kernel
theorem dX11_rests_63 : decode cX11_rests 63 = .ok (.goto (-24), 3) := by decide +kernel
theorem dX11_rests_66 : decode cX11_rests 66 = .ok (.iinc 2 1, 3) := by decide +kernel
theorem dX11_rests_69 : decode cX11_rests 69 = .ok (.goto (-38), 3) := by decide +kernel
theorem dX11_rests_72 : decode cX11_rests 72 = .ok (.aload_n 0, 1) := by decide +kernel
theorem dX11_rests_73 : decode cX11_rests 73 = .ok (.iload_n 1, 1) := by decide +kernel
theorem dX11_rests_74 : decode cX11_rests 74 = .ok (.invokevirtual 105, 3) := by decide +kernel
theorem dX11_rests_77 : decode cX11_rests 77 = .ok (.ireturn, 1) := by decide +kernel
theorem dX11_rest_0 : decode cX11_rest 0 = .ok (.aload_n 0, 1) := by decide +kernel
theorem dX11_rest_1 : decode cX11_rest 1 = .ok (.getfield 20, 3) := by decide +kernel
theorem dX11_rest_4 : decode cX11_rest 4 = .ok (.getfield 178, 3) := by decide +kernel
theorem dX11_rest_7 : decode cX11_rest 7 = .ok (.ifCond .ne 9, 3) := by decide +kernel
theorem dX11_rest_10 : decode cX11_rest 10 = .ok (.aload_n 0, 1) := by decide +kernel
theorem dX11_rest_11 : decode cX11_rest 11 = .ok (.iconst 1, 1) := by decide +kernel
theorem dX11_rest_12 : decode cX11_rest 12 = .ok (.invokevirtual 75, 3) := by decide +kernel
theorem dX11_rest_15 : decode cX11_rest 15 = .ok (.ireturn, 1) := by decide +kernel
theorem dX11_rest_16 : decode cX11_rest 16 = .ok (.aload_n 0, 1) := by decide +kernel
theorem dX11_rest_17 : decode cX11_rest 17 = .ok (.getfield 58, 3) := by decide +kernel
theorem dX11_rest_20 : decode cX11_rest 20 = .ok (.aload_n 0, 1) := by decide +kernel
theorem dX11_rest_21 : decode cX11_rest 21 = .ok (.getfield 20, 3) := by decide +kernel
theorem dX11_rest_24 : decode cX11_rest 24 = .ok (.invokevirtual 297, 3) := by decide +kernel
theorem dX11_rest_27 : decode cX11_rest 27 = .ok (.iconst 0, 1) := by decide +kernel
theorem dX11_rest_28 : decode cX11_rest 28 = .ok (.istore_n 1, 1) := by decide +kernel
theorem dX11_rest_29 : decode cX11_rest 29 = .ok (.iload_n 1, 1) := by decide +kernel
theorem dX11_rest_30 : decode cX11_rest 30 = .ok (.bipush 6, 2) := by decide +kernel
theorem dX11_rest_32 : decode cX11_rest 32 = .ok (.if_icmp .ge 46, 3) := by decide +kernel
theorem dX11_rest_35 : decode cX11_rest 35 = .ok (.iconst 0, 1) := by decide +kernel
theorem dX11_rest_36 : decode cX11_rest 36 = .ok (.istore_n 2, 1) := by decide +kernel
theorem dX11_rest_37 : decode cX11_rest 37 = .ok (.iload_n 2, 1) := by decide +kernel
theorem dX11_rest_38 : decode cX11_rest 38 = .ok (.bipush 6, 2) := by decide +kernel
theorem dX11_rest_40 : decode cX11_rest 40 = .ok (.if_icmp .ge 32, 3) := by decide +kernel
theorem dX11_rest_43 : decode cX11_rest 43 = .ok (.aload_n 0, 1) := by decide +kernel
theorem dX11_rest_44 : decode cX11_rest 44 = .ok (.getfield 58, 3) := by decide +kernel
theorem dX11_rest_47 : decode cX11_rest 47 = .ok (.iload_n 1, 1) := by decide +kernel
theorem dX11_rest_48 : decode cX11_rest 48 = .ok (.iload_n 2, 1) := by decide +kernel
theorem dX11_rest_49 : decode cX11_rest 49 = .ok (.invokevirtual 300, 3) := by decide +kernel
theorem dX11_rest_52 : decode cX11_rest 52 = .ok (.ifCond .eq 14, 3) := by decide +kernel
theorem dX11_rest_55 : decode cX11_rest 55 = .ok (.aload_n 0, 1) := by decide +kernel
theorem dX11_rest_56 : decode cX11_rest 56 = .ok (.bipush 10, 2) := by decide +kernel
theorem dX11_rest_58 : decode cX11_rest 58 = .ok (.iload_n 1, 1) := by decide +kernel
theorem dX11_rest_59 : decode cX11_rest 59 = .ok (.imul, 1) := by decide +kernel
theorem dX11_rest_60 : decode cX11_rest 60 = .ok (.iload_n 2, 1) := by decide +kernel
theorem dX11_rest_61 : decode cX11_rest 61 = .ok (.iadd, 1) := by decide +kernel
theorem dX11_rest_62 : decode cX11_rest 62 = .ok (.invokevirtual 105, 3) := by decide +kernel
theorem dX11_rest_65 : decode cX11_rest 65 = .ok (.ireturn, 1) := by decide +kernel
theorem dX11_rest_66 : decode cX11_rest 66 = .ok (.iinc 2 1, 3) := by decide +kernel
theorem dX11_rest_69 : decode cX11_rest 69 = .ok (.goto (-32), 3) := by decide +kernel
theorem dX11_rest_72 : decode cX11_rest 72 = .ok (.iinc 1 1, 3) := by decide +kernel
theorem dX11_rest_75 : decode cX11_rest 75 = .ok (.goto (-46), 3) := by decide +kernel
theorem dX11_rest_78 : decode cX11_rest 78 = .ok (.aload_n 0, 1) := by decide +kernel
theorem dX11_rest_79 : decode cX11_rest 79 = .ok (.bipush (-2), 2) := by decide +kernel
theorem dX11_rest_81 : decode cX11_rest 81 = .ok (.invokevirtual 105, 3) := by decide +kernel
theorem dX11_rest_84 : decode cX11_rest 84 = .ok (.ireturn, 1) := by decide +kernel
theorem dX11_day_0 : decode cX11_day 0 = .ok (.aload_n 0, 1) := by decide +kernel
theorem dX11_day_1 : decode cX11_day 1 = .ok (.getfield 20, 3) := by decide +kernel
theorem dX11_day_4 : decode cX11_day 4 = .ok (.getfield 178, 3) := by decide +kernel
theorem dX11_day_7 : decode cX11_day 7 = .ok (.ifCond .ne 9, 3) := by decide +kernel
theorem dX11_day_10 : decode cX11_day 10 = .ok (.aload_n 0, 1) := by decide +kernel
theorem dX11_day_11 : decode cX11_day 11 = .ok (.iconst 1, 1) := by decide +kernel
theorem dX11_day_12 : decode cX11_day 12 = .ok (.invokevirtual 75, 3) := by decide +kernel
theorem dX11_day_15 : decode cX11_day 15 = .ok (.ireturn, 1) := by decide +kernel
theorem dX11_day_16 : decode cX11_day 16 = .ok (.iload_n 1, 1) := by decide +kernel
theorem dX11_day_17 : decode cX11_day 17 = .ok (.invokestatic 304, 3) := by decide +kernel
theorem dX11_day_20 : decode cX11_day 20 = .ok (.ifCond .ne 9, 3) := by decide +kernel
theorem dX11_day_23 : decode cX11_day 23 = .ok (.aload_n 0, 1) := by decide +kernel
theorem dX11_day_24 : decode cX11_day 24 = .ok (.iconst 2, 1) := by decide +kernel
theorem dX11_day_25 : decode cX11_day 25 = .ok (.invokevirtual 75, 3) := by decide +kernel
theorem dX11_day_28 : decode cX11_day 28 = .ok (.ireturn, 1) := by decide +kernel
theorem dX11_day_29 : decode cX11_day 29 = .ok (.aload_n 0, 1) := by decide +kernel
theorem dX11_day_30 : decode cX11_day 30 = .ok (.aload_n 0, 1) := by decide +kernel
theorem dX11_day_31 : decode cX11_day 31 = .ok (.getfield 20, 3) := by decide +kernel
theorem dX11_day_34 : decode cX11_day 34 = .ok (.iconst (-1), 1) := by decide +kernel
theorem dX11_day_35 : decode cX11_day 35 = .ok (.iload_n 1, 1) := by decide +kernel
theorem dX11_day_36 : decode cX11_day 36 = .ok (.iconst 1, 1) := by decide +kernel
theorem dX11_day_37 : decode cX11_day 37 = .ok (.invokevirtual 307, 3) := by decide +kernel
theorem dX11_day_40 : decode cX11_day 40 = .ok (.invokevirtual 105, 3) := by decide +kernel
theorem dX11_day_43 : decode cX11_day 43 = .ok (.ireturn, 1) := by decide +kernel
theorem dX11_dayOf_0 : decode cX11_dayOf 0 = .ok (.aload_n 0, 1) := by decide +kernel
theorem dX11_dayOf_1 : decode cX11_dayOf 1 = .ok (.iload_n 1, 1) := by decide +kernel
theorem dX11_dayOf_2 : decode cX11_dayOf 2 = .ok (.invokevirtual 129, 3) := by decide +kernel
theorem dX11_dayOf_5 : decode cX11_dayOf 5 = .ok (.ifCond .ne 9, 3) := by decide +kernel
theorem dX11_dayOf_8 : decode cX11_dayOf 8 = .ok (.aload_n 0, 1) := by decide +kernel
theorem dX11_dayOf_9 : decode cX11_dayOf 9 = .ok (.iconst 1, 1) := by decide +kernel
theorem dX11_dayOf_10 : decode cX11_dayOf 10 = .ok (.invokevirtual 75, 3) := by decide +kernel
theorem dX11_dayOf_13 : decode cX11_dayOf 13 = .ok (.ireturn, 1) := by decide +kernel
theorem dX11_dayOf_14 : decode cX11_dayOf 14 = .ok (.iload_n 2, 1) := by decide +kernel
theorem dX11_dayOf_15 : decode cX11_dayOf 15 = .ok (.invokestatic 304, 3) := by decide +kernel
theorem dX11_dayOf_18 : decode cX11_dayOf 18 = .ok (.ifCond .eq 14, 3) := by decide +kernel
theorem dX11_dayOf_21 : decode cX11_dayOf 21 = .ok (.iload_n 3, 1) := by decide +kernel
theorem dX11_dayOf_22 : decode cX11_dayOf 22 = .ok (.iconst 1, 1) := by decide +kernel
theorem dX11_dayOf_23 : decode cX11_dayOf 23 = .ok (.if_icmp .lt 9, 3) := by decide +kernel
theorem dX11_dayOf_26 : decode cX11_dayOf 26 = .ok (.iload_n 3, 1) := by decide +kernel
theorem dX11_dayOf_27 : decode cX11_dayOf 27 = .ok (.bipush 20, 2) := by decide +kernel
theorem dX11_dayOf_29 : decode cX11_dayOf 29 = .ok (.if_icmp .le 9, 3) := by decide +kernel
theorem dX11_dayOf_32 : decode cX11_dayOf 32 = .ok (.aload_n 0, 1) := by decide +kernel
theorem dX11_dayOf_33 : decode cX11_dayOf 33 = .ok (.iconst 2, 1) := by decide +kernel
theorem dX11_dayOf_34 : decode cX11_dayOf 34 = .ok (.invokevirtual 75, 3) := by decide +kernel
theorem dX11_dayOf_37 : decode cX11_dayOf 37 = .ok (.ireturn, 1) := by decide +kernel
theorem dX11_dayOf_38 : decode cX11_dayOf 38 = .ok (.aload_n 0, 1) := by decide +kernel
theorem dX11_dayOf_39 : decode cX11_dayOf 39 = .ok (.aload_n 0, 1) := by decide +kernel
theorem dX11_dayOf_40 : decode cX11_dayOf 40 = .ok (.getfield 20, 3) := by decide +kernel
theorem dX11_dayOf_43 : decode cX11_dayOf 43 = .ok (.iload_n 1, 1) := by decide +kernel
theorem dX11_dayOf_44 : decode cX11_dayOf 44 = .ok (.iload_n 2, 1) := by decide +kernel
theorem dX11_dayOf_45 : decode cX11_dayOf 45 = .ok (.iload_n 3, 1) := by decide +kernel
theorem dX11_dayOf_46 : decode cX11_dayOf 46 = .ok (.invokevirtual 307, 3) := by decide +kernel
theorem dX11_dayOf_49 : decode cX11_dayOf 49 = .ok (.invokevirtual 105, 3) := by decide +kernel
theorem dX11_dayOf_52 : decode cX11_dayOf 52 = .ok (.ireturn, 1) := by decide +kernel
theorem dX11_go_0 : decode cX11_go 0 = .ok (.aload_n 0, 1) := by decide +kernel
theorem dX11_go_1 : decode cX11_go 1 = .ok (.iload_n 1, 1) := by decide +kernel
theorem dX11_go_2 : decode cX11_go 2 = .ok (.invokevirtual 129, 3) := by decide +kernel
theorem dX11_go_5 : decode cX11_go 5 = .ok (.ifCond .eq 11, 3) := by decide +kernel
theorem dX11_go_8 : decode cX11_go 8 = .ok (.aload_n 0, 1) := by decide +kernel
theorem dX11_go_9 : decode cX11_go 9 = .ok (.iload_n 2, 1) := by decide +kernel
theorem dX11_go_10 : decode cX11_go 10 = .ok (.invokevirtual 108, 3) := by decide +kernel
theorem dX11_go_13 : decode cX11_go 13 = .ok (.ifCond .ne 9, 3) := by decide +kernel
theorem dX11_go_16 : decode cX11_go 16 = .ok (.aload_n 0, 1) := by decide +kernel
theorem dX11_go_17 : decode cX11_go 17 = .ok (.iconst 1, 1) := by decide +kernel
theorem dX11_go_18 : decode cX11_go 18 = .ok (.invokevirtual 75, 3) := by decide +kernel
theorem dX11_go_21 : decode cX11_go 21 = .ok (.ireturn, 1) := by decide +kernel
theorem dX11_go_22 : decode cX11_go 22 = .ok (.aload_n 0, 1) := by decide +kernel
theorem dX11_go_23 : decode cX11_go 23 = .ok (.getfield 37, 3) := by decide +kernel
theorem dX11_go_26 : decode cX11_go 26 = .ok (.iload_n 1, 1) := by decide +kernel
theorem dX11_go_27 : decode cX11_go 27 = .ok (.invokevirtual 147, 3) := by decide +kernel
theorem dX11_go_30 : decode cX11_go 30 = .ok (.istore_n 3, 1) := by decide +kernel
theorem dX11_go_31 : decode cX11_go 31 = .ok (.aload_n 0, 1) := by decide +kernel
theorem dX11_go_32 : decode cX11_go 32 = .ok (.getfield 20, 3) := by decide +kernel
theorem dX11_go_35 : decode cX11_go 35 = .ok (.getfield 89, 3) := by decide +kernel
theorem dX11_go_38 : decode cX11_go 38 = .ok (.iload_n 3, 1) := by decide +kernel
theorem dX11_go_39 : decode cX11_go 39 = .ok (.iload_n 2, 1) := by decide +kernel
theorem dX11_go_40 : decode cX11_go 40 = .ok (.invokevirtual 247, 3) := by decide +kernel
theorem dX11_go_43 : decode cX11_go 43 = .ok (.istore 4, 2) := by decide +kernel
theorem dX11_go_45 : decode cX11_go 45 = .ok (.iload_n 3, 1) := by decide +kernel
theorem dX11_go_46 : decode cX11_go 46 = .ok (.iload_n 2, 1) := by decide +kernel
theorem dX11_go_47 : decode cX11_go 47 = .ok (.if_icmp .eq 10, 3) := by decide +kernel
theorem dX11_go_50 : decode cX11_go 50 = .ok (.iload 4, 2) := by decide +kernel
theorem dX11_go_52 : decode cX11_go 52 = .ok (.ldc 250, 2) := by decide +kernel
theorem dX11_go_54 : decode cX11_go 54 = .ok (.if_icmp .lt 9, 3) := by decide +kernel
theorem dX11_go_57 : decode cX11_go 57 = .ok (.aload_n 0, 1) := by decide +kernel
theorem dX11_go_58 : decode cX11_go 58 = .ok (.iconst 5, 1) := by decide +kernel
theorem dX11_go_59 : decode cX11_go 59 = .ok (.invokevirtual 75, 3) := by decide +kernel
theorem dX11_go_62 : decode cX11_go 62 = .ok (.ireturn, 1) := by decide +kernel
theorem dX11_go_63 : decode cX11_go 63 = .ok (.aload_n 0, 1) := by decide +kernel
theorem dX11_go_64 : decode cX11_go 64 = .ok (.getfield 37, 3) := by decide +kernel
theorem dX11_go_67 : decode cX11_go 67 = .ok (.invokevirtual 311, 3) := by decide +kernel
theorem dX11_go_70 : decode cX11_go 70 = .ok (.aload_n 0, 1) := by decide +kernel
theorem dX11_go_71 : decode cX11_go 71 = .ok (.getfield 37, 3) := by decide +kernel
theorem dX11_go_74 : decode cX11_go 74 = .ok (.iload_n 1, 1) := by decide +kernel
theorem dX11_go_75 : decode cX11_go 75 = .ok (.iload_n 2, 1) := by decide +kernel
theorem dX11_go_76 : decode cX11_go 76 = .ok (.invokevirtual 314, 3) := by decide +kernel
theorem dX11_go_79 : decode cX11_go 79 = .ok (.aload_n 0, 1) := by decide +kernel
theorem dX11_go_80 : decode cX11_go 80 = .ok (.iload 4, 2) := by decide +kernel
theorem dX11_go_82 : decode cX11_go 82 = .ok (.invokevirtual 105, 3) := by decide +kernel
theorem dX11_go_85 : decode cX11_go 85 = .ok (.ireturn, 1) := by decide +kernel
theorem dX11_hand_0 : decode cX11_hand 0 = .ok (.aload_n 0, 1) := by decide +kernel
theorem dX11_hand_1 : decode cX11_hand 1 = .ok (.iload_n 1, 1) := by decide +kernel
theorem dX11_hand_2 : decode cX11_hand 2 = .ok (.invokevirtual 157, 3) := by decide +kernel
theorem dX11_hand_5 : decode cX11_hand 5 = .ok (.ifCond .eq 11, 3) := by decide +kernel
theorem dX11_hand_8 : decode cX11_hand 8 = .ok (.aload_n 0, 1) := by decide +kernel
theorem dX11_hand_9 : decode cX11_hand 9 = .ok (.iload_n 2, 1) := by decide +kernel
theorem dX11_hand_10 : decode cX11_hand 10 = .ok (.invokevirtual 108, 3) := by decide +kernel
theorem dX11_hand_13 : decode cX11_hand 13 = .ok (.ifCond .ne 9, 3) := by decide +kernel
theorem dX11_hand_16 : decode cX11_hand 16 = .ok (.aload_n 0, 1) := by decide +kernel
theorem dX11_hand_17 : decode cX11_hand 17 = .ok (.iconst 1, 1) := by decide +kernel
theorem dX11_hand_18 : decode cX11_hand 18 = .ok (.invokevirtual 318, 3) := by decide +kernel
theorem dX11_hand_21 : decode cX11_hand 21 = .ok (.ireturn, 1) := by decide +kernel
theorem dX11_hand_22 : decode cX11_hand 22 = .ok (.aload_n 0, 1) := by decide +kernel
theorem dX11_hand_23 : decode cX11_hand 23 = .ok (.getfield 37, 3) := by decide +kernel
theorem dX11_hand_26 : decode cX11_hand 26 = .ok (.iload_n 1, 1) := by decide +kernel
theorem dX11_hand_27 : decode cX11_hand 27 = .ok (.invokevirtual 172, 3) := by decide +kernel
theorem dX11_hand_30 : decode cX11_hand 30 = .ok (.istore_n 3, 1) := by decide +kernel
theorem dX11_hand_31 : decode cX11_hand 31 = .ok (.aload_n 0, 1) := by decide +kernel
theorem dX11_hand_32 : decode cX11_hand 32 = .ok (.getfield 20, 3) := by decide +kernel
theorem dX11_hand_35 : decode cX11_hand 35 = .ok (.aload_n 0, 1) := by decide +kernel
theorem dX11_hand_36 : decode cX11_hand 36 = .ok (.getfield 37, 3) := by decide +kernel
theorem dX11_hand_39 : decode cX11_hand 39 = .ok (.invokevirtual 321, 3) := by decide +kernel
theorem dX11_hand_42 : decode cX11_hand 42 = .ok (.invokevirtual 185, 3) := by decide +kernel
theorem dX11_hand_45 : decode cX11_hand 45 = .ok (.ifCond .eq 27, 3) := by decide +kernel
theorem dX11_hand_48 : decode cX11_hand 48 = .ok (.aload_n 0, 1) := by decide +kernel
theorem dX11_hand_49 : decode cX11_hand 49 = .ok (.getfield 20, 3) := by decide +kernel
theorem dX11_hand_52 : decode cX11_hand 52 = .ok (.aload_n 0, 1) := by decide +kernel
theorem dX11_hand_53 : decode cX11_hand 53 = .ok (.getfield 20, 3) := by decide +kernel
theorem dX11_hand_56 : decode cX11_hand 56 = .ok (.getfield 160, 3) := by decide +kernel
theorem dX11_hand_59 : decode cX11_hand 59 = .ok (.iload_n 1, 1) := by decide +kernel
theorem dX11_hand_60 : decode cX11_hand 60 = .ok (.aaload, 1) := by decide +kernel
theorem dX11_hand_61 : decode cX11_hand 61 = .ok (.getfield 164, 3) := by decide +kernel
theorem dX11_hand_64 : decode cX11_hand 64 = .ok (.iload_n 3, 1) := by decide +kernel
theorem dX11_hand_65 : decode cX11_hand 65 = .ok (.iload_n 2, 1) := by decide +kernel
theorem dX11_hand_66 : decode cX11_hand 66 = .ok (.invokevirtual 323, 3) := by decide +kernel
theorem dX11_hand_69 : decode cX11_hand 69 = .ok (.ifCond .eq 7, 3) := by decide +kernel
theorem dX11_hand_72 : decode cX11_hand 72 = .ok (.iconst 1, 1) := by decide +kernel
theorem dX11_hand_73 : decode cX11_hand 73 = .ok (.goto 4, 3) := by decide +kernel
theorem dX11_hand_76 : decode cX11_hand 76 = .ok (.iconst 0, 1) := by decide +kernel
theorem dX11_hand_77 : decode cX11_hand 77 = .ok (.istore 4, 2) := by decide +kernel
theorem dX11_hand_79 : decode cX11_hand 79 = .ok (.aload_n 0, 1) := by decide +kernel
theorem dX11_hand_80 : decode cX11_hand 80 = .ok (.getfield 20, 3) := by decide +kernel
theorem dX11_hand_83 : decode cX11_hand 83 = .ok (.getfield 89, 3) := by decide +kernel
theorem dX11_hand_86 : decode cX11_hand 86 = .ok (.iload_n 3, 1) := by decide +kernel
theorem dX11_hand_87 : decode cX11_hand 87 = .ok (.iload_n 2, 1) := by decide +kernel
theorem dX11_hand_88 : decode cX11_hand 88 = .ok (.invokevirtual 327, 3) := by decide +kernel
theorem dX11_hand_91 : decode cX11_hand 91 = .ok (.ifCond .eq 8, 3) := by decide +kernel
theorem dX11_hand_94 : decode cX11_hand 94 = .ok (.iload 4, 2) := by decide +kernel
theorem dX11_hand_96 : decode cX11_hand 96 = .ok (.ifCond .ne 9, 3) := by decide +kernel
theorem dX11_hand_99 : decode cX11_hand 99 = .ok (.aload_n 0, 1) := by decide +kernel
theorem dX11_hand_100 : decode cX11_hand 100 = .ok (.iconst 5, 1) := by decide +kernel
theorem dX11_hand_101 : decode cX11_hand 101 = .ok (.invokevirtual 318, 3) := by decide +kernel
theorem dX11_hand_104 : decode cX11_hand 104 = .ok (.ireturn, 1) := by decide +kernel
theorem dX11_hand_105 : decode cX11_hand 105 = .ok (.aload_n 0, 1) := by decide +kernel
theorem dX11_hand_106 : decode cX11_hand 106 = .ok (.getfield 37, 3) := by decide +kernel
theorem dX11_hand_109 : decode cX11_hand 109 = .ok (.invokevirtual 311, 3) := by decide +kernel
theorem dX11_hand_112 : decode cX11_hand 112 = .ok (.aload_n 0, 1) := by decide +kernel
theorem dX11_hand_113 : decode cX11_hand 113 = .ok (.getfield 37, 3) := by decide +kernel
theorem dX11_hand_116 : decode cX11_hand 116 = .ok (.iload_n 1, 1) := by decide +kernel
theorem dX11_hand_117 : decode cX11_hand 117 = .ok (.iload_n 2, 1) := by decide +kernel
theorem dX11_hand_118 : decode cX11_hand 118 = .ok (.invokevirtual 330, 3) := by decide +kernel
theorem dX11_hand_121 : decode cX11_hand 121 = .ok (.aload_n 0, 1) := by decide +kernel
theorem dX11_hand_122 : decode cX11_hand 122 = .ok (.invokevirtual 333, 3) := by decide +kernel
theorem dX11_hand_125 : decode cX11_hand 125 = .ok (.ireturn, 1) := by decide +kernel
theorem dX11_hours_0 : decode cX11_hours 0 = .ok (.aload_n 0, 1) := by decide +kernel
theorem dX11_hours_1 : decode cX11_hours 1 = .ok (.getfield 20, 3) := by decide +kernel
theorem dX11_hours_4 : decode cX11_hours 4 = .ok (.getfield 178, 3) := by decide +kernel
theorem dX11_hours_7 : decode cX11_hours 7 = .ok (.ifCond .ne 9, 3) := by decide +kernel
theorem dX11_hours_10 : decode cX11_hours 10 = .ok (.aload_n 0, 1) := by decide +kernel
theorem dX11_hours_11 : decode cX11_hours 11 = .ok (.iconst 1, 1) := by decide +kernel
theorem dX11_hours_12 : decode cX11_hours 12 = .ok (.invokevirtual 75, 3) := by decide +kernel
theorem dX11_hours_15 : decode cX11_hours 15 = .ok (.ireturn, 1) := by decide +kernel
theorem dX11_hours_16 : decode cX11_hours 16 = .ok (.iload_n 1, 1) := by decide +kernel
theorem dX11_hours_17 : decode cX11_hours 17 = .ok (.iconst 1, 1) := by decide +kernel
theorem dX11_hours_18 : decode cX11_hours 18 = .ok (.if_icmp .lt 9, 3) := by decide +kernel
theorem dX11_hours_21 : decode cX11_hours 21 = .ok (.iload_n 1, 1) := by decide +kernel
theorem dX11_hours_22 : decode cX11_hours 22 = .ok (.bipush 24, 2) := by decide +kernel
theorem dX11_hours_24 : decode cX11_hours 24 = .ok (.if_icmp .le 9, 3) := by decide +kernel
theorem dX11_hours_27 : decode cX11_hours 27 = .ok (.aload_n 0, 1) := by decide +kernel
theorem dX11_hours_28 : decode cX11_hours 28 = .ok (.iconst 2, 1) := by decide +kernel
theorem dX11_hours_29 : decode cX11_hours 29 = .ok (.invokevirtual 75, 3) := by decide +kernel
theorem dX11_hours_32 : decode cX11_hours 32 = .ok (.ireturn, 1) := by decide +kernel
theorem dX11_hours_33 : decode cX11_hours 33 = .ok (.aload_n 0, 1) := by decide +kernel
theorem dX11_hours_34 : decode cX11_hours 34 = .ok (.getfield 37, 3) := by decide +kernel
theorem dX11_hours_37 : decode cX11_hours 37 = .ok (.invokevirtual 311, 3) := by decide +kernel
theorem dX11_hours_40 : decode cX11_hours 40 = .ok (.aload_n 0, 1) := by decide +kernel
theorem dX11_hours_41 : decode cX11_hours 41 = .ok (.getfield 37, 3) := by decide +kernel
theorem dX11_hours_44 : decode cX11_hours 44 = .ok (.iload_n 1, 1) := by decide +kernel
theorem dX11_hours_45 : decode cX11_hours 45 = .ok (.invokevirtual 337, 3) := by decide +kernel
theorem dX11_hours_48 : decode cX11_hours 48 = .ok (.aload_n 0, 1) := by decide +kernel
theorem dX11_hours_49 : decode cX11_hours 49 = .ok (.aload_n 0, 1) := by decide +kernel
theorem dX11_hours_50 : decode cX11_hours 50 = .ok (.getfield 37, 3) := by decide +kernel
theorem dX11_hours_53 : decode cX11_hours 53 = .ok (.invokevirtual 321, 3) := by decide +kernel
theorem dX11_hours_56 : decode cX11_hours 56 = .ok (.invokevirtual 105, 3) := by decide +kernel
theorem dX11_hours_59 : decode cX11_hours 59 = .ok (.ireturn, 1) := by decide +kernel
theorem dX11_undo_0 : decode cX11_undo 0 = .ok (.aload_n 0, 1) := by decide +kernel
theorem dX11_undo_1 : decode cX11_undo 1 = .ok (.getfield 37, 3) := by decide +kernel
theorem dX11_undo_4 : decode cX11_undo 4 = .ok (.invokevirtual 340, 3) := by decide +kernel
theorem dX11_undo_7 : decode cX11_undo 7 = .ok (.ifCond .eq 10, 3) := by decide +kernel
theorem dX11_undo_10 : decode cX11_undo 10 = .ok (.aload_n 0, 1) := by decide +kernel
theorem dX11_undo_11 : decode cX11_undo 11 = .ok (.invokevirtual 333, 3) := by decide +kernel
theorem dX11_undo_14 : decode cX11_undo 14 = .ok (.goto 9, 3) := by decide +kernel
theorem dX11_undo_17 : decode cX11_undo 17 = .ok (.aload_n 0, 1) := by decide +kernel
theorem dX11_undo_18 : decode cX11_undo 18 = .ok (.bipush 6, 2) := by decide +kernel
theorem dX11_undo_20 : decode cX11_undo 20 = .ok (.invokevirtual 318, 3) := by decide +kernel
theorem dX11_undo_23 : decode cX11_undo 23 = .ok (.ireturn, 1) := by decide +kernel
theorem dX11_image_0 : decode cX11_image 0 = .ok (.aload_n 0, 1) := by decide +kernel
theorem dX11_image_1 : decode cX11_image 1 = .ok (.getfield 20, 3) := by decide +kernel
theorem dX11_image_4 : decode cX11_image 4 = .ok (.getfield 178, 3) := by decide +kernel
theorem dX11_image_7 : decode cX11_image 7 = .ok (.ifCond .ne 9, 3) := by decide +kernel
theorem dX11_image_10 : decode cX11_image 10 = .ok (.aload_n 0, 1) := by decide +kernel
theorem dX11_image_11 : decode cX11_image 11 = .ok (.iconst 1, 1) := by decide +kernel
theorem dX11_image_12 : decode cX11_image 12 = .ok (.invokevirtual 75, 3) := by decide +kernel
theorem dX11_image_15 : decode cX11_image 15 = .ok (.ireturn, 1) := by decide +kernel
theorem dX11_image_16 : decode cX11_image 16 = .ok (.aload_n 0, 1) := by decide +kernel
theorem dX11_image_17 : decode cX11_image 17 = .ok (.getfield 37, 3) := by decide +kernel
theorem dX11_image_20 : decode cX11_image 20 = .ok (.getfield 343, 3) := by decide +kernel
theorem dX11_image_23 : decode cX11_image 23 = .ok (.iconst 3, 1) := by decide +kernel
theorem dX11_image_24 : decode cX11_image 24 = .ok (.if_icmp .lt 9, 3) := by decide +kernel
theorem dX11_image_27 : decode cX11_image 27 = .ok (.aload_n 0, 1) := by decide +kernel
theorem dX11_image_28 : decode cX11_image 28 = .ok (.iconst 3, 1) := by decide +kernel
theorem dX11_image_29 : decode cX11_image 29 = .ok (.invokevirtual 75, 3) := by decide +kernel
theorem dX11_image_32 : decode cX11_image 32 = .ok (.ireturn, 1) := by decide +kernel
theorem dX11_image_33 : decode cX11_image 33 = .ok (.aload_n 0, 1) := by decide +kernel
theorem dX11_image_34 : decode cX11_image 34 = .ok (.aload_n 0, 1) := by decide +kernel
theorem dX11_image_35 : decode cX11_image 35 = .ok (.getfield 37, 3) := by decide +kernel
theorem dX11_image_38 : decode cX11_image 38 = .ok (.invokevirtual 346, 3) := by decide +kernel
theorem dX11_image_41 : decode cX11_image 41 = .ok (.invokevirtual 105, 3) := by decide +kernel
theorem dX11_image_44 : decode cX11_image 44 = .ok (.ireturn, 1) := by decide +kernel
theorem dX11_back_0 : decode cX11_back 0 = .ok (.aload_n 0, 1) := by decide +kernel
theorem dX11_back_1 : decode cX11_back 1 = .ok (.getfield 37, 3) := by decide +kernel
theorem dX11_back_4 : decode cX11_back 4 = .ok (.iload_n 1, 1) := by decide +kernel
theorem dX11_back_5 : decode cX11_back 5 = .ok (.invokevirtual 349, 3) := by decide +kernel
theorem dX11_back_8 : decode cX11_back 8 = .ok (.ifCond .eq 10, 3) := by decide +kernel
theorem dX11_back_11 : decode cX11_back 11 = .ok (.aload_n 0, 1) := by decide +kernel
theorem dX11_back_12 : decode cX11_back 12 = .ok (.invokevirtual 333, 3) := by decide +kernel
theorem dX11_back_15 : decode cX11_back 15 = .ok (.goto 8, 3) := by decide +kernel
theorem dX11_back_18 : decode cX11_back 18 = .ok (.aload_n 0, 1) := by decide +kernel
theorem dX11_back_19 : decode cX11_back 19 = .ok (.iconst 1, 1) := by decide +kernel
theorem dX11_back_20 : decode cX11_back 20 = .ok (.invokevirtual 318, 3) := by decide +kernel
theorem dX11_back_23 : decode cX11_back 23 = .ok (.ireturn, 1) := by decide +kernel
theorem dX11_led_0 : decode cX11_led 0 = .ok (.iload_n 1, 1) := by decide +kernel
theorem dX11_led_1 : decode cX11_led 1 = .ok (.istore_n 2, 1) := by decide +kernel
theorem dX11_led_2 : decode cX11_led 2 = .ok (.iconst 0, 1) := by decide +kernel
theorem dX11_led_3 : decode cX11_led 3 = .ok (.istore_n 3, 1) := by decide +kernel
theorem dX11_led_4 : decode cX11_led 4 = .ok (.iload_n 3, 1) := by decide +kernel
theorem dX11_led_5 : decode cX11_led 5 = .ok (.aload_n 0, 1) := by decide +kernel
theorem dX11_led_6 : decode cX11_led 6 = .ok (.getfield 20, 3) := by decide +kernel
theorem dX11_led_9 : decode cX11_led 9 = .ok (.getfield 123, 3) := by decide +kernel
theorem dX11_led_12 : decode cX11_led 12 = .ok (.if_icmp .ge 41, 3) := by decide +kernel
theorem dX11_led_15 : decode cX11_led 15 = .ok (.aload_n 0, 1) := by decide +kernel
theorem dX11_led_16 : decode cX11_led 16 = .ok (.getfield 37, 3) := by decide +kernel
theorem dX11_led_19 : decode cX11_led 19 = .ok (.iload_n 3, 1) := by decide +kernel
theorem dX11_led_20 : decode cX11_led 20 = .ok (.invokevirtual 172, 3) := by decide +kernel
theorem dX11_led_23 : decode cX11_led 23 = .ok (.aload_n 0, 1) := by decide +kernel
theorem dX11_led_24 : decode cX11_led 24 = .ok (.getfield 20, 3) := by decide +kernel
theorem dX11_led_27 : decode cX11_led 27 = .ok (.getfield 160, 3) := by decide +kernel
theorem dX11_led_30 : decode cX11_led 30 = .ok (.iload_n 3, 1) := by decide +kernel
theorem dX11_led_31 : decode cX11_led 31 = .ok (.aaload, 1) := by decide +kernel
theorem dX11_led_32 : decode cX11_led 32 = .ok (.getfield 169, 3) := by decide +kernel
theorem dX11_led_35 : decode cX11_led 35 = .ok (.if_icmp .ne 12, 3) := by decide +kernel
theorem dX11_led_38 : decode cX11_led 38 = .ok (.iload_n 2, 1) := by decide +kernel
theorem dX11_led_39 : decode cX11_led 39 = .ok (.ifCond .ne 5, 3) := by decide +kernel
theorem dX11_led_42 : decode cX11_led 42 = .ok (.iload_n 3, 1) := by decide +kernel
theorem dX11_led_43 : decode cX11_led 43 = .ok (.ireturn, 1) := by decide +kernel
theorem dX11_led_44 : decode cX11_led 44 = .ok (.iinc 2 (-1), 3) := by decide +kernel
theorem dX11_led_47 : decode cX11_led 47 = .ok (.iinc 3 1, 3) := by decide +kernel
theorem dX11_led_50 : decode cX11_led 50 = .ok (.goto (-46), 3) := by decide +kernel
theorem dX11_led_53 : decode cX11_led 53 = .ok (.new 352, 3) := by decide +kernel
theorem dX11_led_56 : decode cX11_led 56 = .ok (.dup, 1) := by decide +kernel
theorem dX11_led_57 : decode cX11_led 57 = .ok (.invokespecial 354, 3) := by decide +kernel
theorem dX11_led_60 : decode cX11_led 60 = .ok (.athrow, 1) := by decide +kernel
theorem dX11_size_0 : decode cX11_size 0 = .ok (.iload_n 1, 1) := by decide +kernel
theorem dX11_size_1 : decode cX11_size 1 = .ok (.tableswitch 100 9 13 #[35, 57, 79, 87, 95], 35) := by decide +kernel
theorem dX11_size_36 : decode cX11_size 36 = .ok (.aload_n 0, 1) := by decide +kernel
theorem dX11_size_37 : decode cX11_size 37 = .ok (.getfield 20, 3) := by decide +kernel
theorem dX11_size_40 : decode cX11_size 40 = .ok (.getfield 178, 3) := by decide +kernel
theorem dX11_size_43 : decode cX11_size 43 = .ok (.ifCond .eq 13, 3) := by decide +kernel
theorem dX11_size_46 : decode cX11_size 46 = .ok (.aload_n 0, 1) := by decide +kernel
theorem dX11_size_47 : decode cX11_size 47 = .ok (.getfield 37, 3) := by decide +kernel
theorem dX11_size_50 : decode cX11_size 50 = .ok (.invokevirtual 321, 3) := by decide +kernel
theorem dX11_size_53 : decode cX11_size 53 = .ok (.goto 4, 3) := by decide +kernel
theorem dX11_size_56 : decode cX11_size 56 = .ok (.iconst 0, 1) := by decide +kernel
theorem dX11_size_57 : decode cX11_size 57 = .ok (.ireturn, 1) := by decide +kernel
theorem dX11_size_58 : decode cX11_size 58 = .ok (.aload_n 0, 1) := by decide +kernel
theorem dX11_size_59 : decode cX11_size 59 = .ok (.getfield 20, 3) := by decide +kernel
theorem dX11_size_62 : decode cX11_size 62 = .ok (.getfield 178, 3) := by decide +kernel
theorem dX11_size_65 : decode cX11_size 65 = .ok (.ifCond .eq 13, 3) := by decide +kernel
theorem dX11_size_68 : decode cX11_size 68 = .ok (.aload_n 0, 1) := by decide +kernel
theorem dX11_size_69 : decode cX11_size 69 = .ok (.getfield 37, 3) := by decide +kernel
theorem dX11_size_72 : decode cX11_size 72 = .ok (.invokevirtual 355, 3) := by decide +kernel
theorem dX11_size_75 : decode cX11_size 75 = .ok (.goto 4, 3) := by decide +kernel
theorem dX11_size_78 : decode cX11_size 78 = .ok (.iconst 0, 1) := by decide +kernel
theorem dX11_size_79 : decode cX11_size 79 = .ok (.ireturn, 1) := by decide +kernel
theorem dX11_size_80 : decode cX11_size 80 = .ok (.aload_n 0, 1) := by decide +kernel
theorem dX11_size_81 : decode cX11_size 81 = .ok (.getfield 37, 3) := by decide +kernel
theorem dX11_size_84 : decode cX11_size 84 = .ok (.getfield 358, 3) := by decide +kernel
theorem dX11_size_87 : decode cX11_size 87 = .ok (.ireturn, 1) := by decide +kernel
theorem dX11_size_88 : decode cX11_size 88 = .ok (.aload_n 0, 1) := by decide +kernel
theorem dX11_size_89 : decode cX11_size 89 = .ok (.getfield 37, 3) := by decide +kernel
theorem dX11_size_92 : decode cX11_size 92 = .ok (.getfield 343, 3) := by decide +kernel
theorem dX11_size_95 : decode cX11_size 95 = .ok (.ireturn, 1) := by decide +kernel
theorem dX11_size_96 : decode cX11_size 96 = .ok (.aload_n 0, 1) := by decide +kernel
theorem dX11_size_97 : decode cX11_size 97 = .ok (.getfield 13, 3) := by decide +kernel
theorem dX11_size_100 : decode cX11_size 100 = .ok (.ireturn, 1) := by decide +kernel
theorem dX11_size_101 : decode cX11_size 101 = .ok (.aload_n 0, 1) := by decide +kernel
theorem dX11_size_102 : decode cX11_size 102 = .ok (.iload_n 1, 1) := by decide +kernel
theorem dX11_size_103 : decode cX11_size 103 = .ok (.invokevirtual 361, 3) := by decide +kernel
theorem dX11_size_106 : decode cX11_size 106 = .ok (.ireturn, 1) := by decide +kernel
theorem dX11_toldSize_0 : decode cX11_toldSize 0 = .ok (.iload_n 1, 1) := by decide +kernel
theorem dX11_toldSize_1 : decode cX11_toldSize 1 = .ok (.tableswitch 126 0 8 #[51, 59, 67, 75, 83, 94, 102, 110, 118], 51) := by decide +kernel
theorem dX11_toldSize_52 : decode cX11_toldSize 52 = .ok (.aload_n 0, 1) := by decide +kernel
theorem dX11_toldSize_53 : decode cX11_toldSize 53 = .ok (.getfield 20, 3) := by decide +kernel
theorem dX11_toldSize_56 : decode cX11_toldSize 56 = .ok (.getfield 364, 3) := by decide +kernel
theorem dX11_toldSize_59 : decode cX11_toldSize 59 = .ok (.ireturn, 1) := by decide +kernel
theorem dX11_toldSize_60 : decode cX11_toldSize 60 = .ok (.aload_n 0, 1) := by decide +kernel
theorem dX11_toldSize_61 : decode cX11_toldSize 61 = .ok (.getfield 20, 3) := by decide +kernel
theorem dX11_toldSize_64 : decode cX11_toldSize 64 = .ok (.getfield 367, 3) := by decide +kernel
theorem dX11_toldSize_67 : decode cX11_toldSize 67 = .ok (.ireturn, 1) := by decide +kernel
theorem dX11_toldSize_68 : decode cX11_toldSize 68 = .ok (.aload_n 0, 1) := by decide +kernel
theorem dX11_toldSize_69 : decode cX11_toldSize 69 = .ok (.getfield 20, 3) := by decide +kernel
theorem dX11_toldSize_72 : decode cX11_toldSize 72 = .ok (.getfield 370, 3) := by decide +kernel
theorem dX11_toldSize_75 : decode cX11_toldSize 75 = .ok (.ireturn, 1) := by decide +kernel
theorem dX11_toldSize_76 : decode cX11_toldSize 76 = .ok (.aload_n 0, 1) := by decide +kernel
theorem dX11_toldSize_77 : decode cX11_toldSize 77 = .ok (.getfield 20, 3) := by decide +kernel
theorem dX11_toldSize_80 : decode cX11_toldSize 80 = .ok (.getfield 201, 3) := by decide +kernel
theorem dX11_toldSize_83 : decode cX11_toldSize 83 = .ok (.ireturn, 1) := by decide +kernel
theorem dX11_toldSize_84 : decode cX11_toldSize 84 = .ok (.aload_n 0, 1) := by decide +kernel
theorem dX11_toldSize_85 : decode cX11_toldSize 85 = .ok (.getfield 20, 3) := by decide +kernel
theorem dX11_toldSize_88 : decode cX11_toldSize 88 = .ok (.getfield 89, 3) := by decide +kernel
theorem dX11_toldSize_91 : decode cX11_toldSize 91 = .ok (.getfield 373, 3) := by decide +kernel
theorem dX11_toldSize_94 : decode cX11_toldSize 94 = .ok (.ireturn, 1) := by decide +kernel
theorem dX11_toldSize_95 : decode cX11_toldSize 95 = .ok (.aload_n 0, 1) := by decide +kernel
theorem dX11_toldSize_96 : decode cX11_toldSize 96 = .ok (.getfield 20, 3) := by decide +kernel
theorem dX11_toldSize_99 : decode cX11_toldSize 99 = .ok (.getfield 102, 3) := by decide +kernel
theorem dX11_toldSize_102 : decode cX11_toldSize 102 = .ok (.ireturn, 1) := by decide +kernel
theorem dX11_toldSize_103 : decode cX11_toldSize 103 = .ok (.aload_n 0, 1) := by decide +kernel
theorem dX11_toldSize_104 : decode cX11_toldSize 104 = .ok (.getfield 20, 3) := by decide +kernel
theorem dX11_toldSize_107 : decode cX11_toldSize 107 = .ok (.getfield 123, 3) := by decide +kernel
theorem dX11_toldSize_110 : decode cX11_toldSize 110 = .ok (.ireturn, 1) := by decide +kernel
theorem dX11_toldSize_111 : decode cX11_toldSize 111 = .ok (.aload_n 0, 1) := by decide +kernel
theorem dX11_toldSize_112 : decode cX11_toldSize 112 = .ok (.getfield 20, 3) := by decide +kernel
theorem dX11_toldSize_115 : decode cX11_toldSize 115 = .ok (.getfield 231, 3) := by decide +kernel
theorem dX11_toldSize_118 : decode cX11_toldSize 118 = .ok (.ireturn, 1) := by decide +kernel
theorem dX11_toldSize_119 : decode cX11_toldSize 119 = .ok (.aload_n 0, 1) := by decide +kernel
theorem dX11_toldSize_120 : decode cX11_toldSize 120 = .ok (.getfield 20, 3) := by decide +kernel
theorem dX11_toldSize_123 : decode cX11_toldSize 123 = .ok (.getfield 274, 3) := by decide +kernel
theorem dX11_toldSize_126 : decode cX11_toldSize 126 = .ok (.ireturn, 1) := by decide +kernel
theorem dX11_toldSize_127 : decode cX11_toldSize 127 = .ok (.iconst (-1), 1) := by decide +kernel
theorem dX11_toldSize_128 : decode cX11_toldSize 128 = .ok (.ireturn, 1) := by decide +kernel
theorem dX11_trouble_0 : decode cX11_trouble 0 = .ok (.aload_n 0, 1) := by decide +kernel
theorem dX11_trouble_1 : decode cX11_trouble 1 = .ok (.getfield 62, 3) := by decide +kernel
theorem dX11_trouble_4 : decode cX11_trouble 4 = .ok (.ireturn, 1) := by decide +kernel
theorem dX11_refuse_0 : decode cX11_refuse 0 = .ok (.aload_n 0, 1) := by decide +kernel
theorem dX11_refuse_1 : decode cX11_refuse 1 = .ok (.iload_n 1, 1) := by decide +kernel
theorem dX11_refuse_2 : decode cX11_refuse 2 = .ok (.putfield 62, 3) := by decide +kernel
theorem dX11_refuse_5 : decode cX11_refuse 5 = .ok (.iconst (-1), 1) := by decide +kernel
theorem dX11_refuse_6 : decode cX11_refuse 6 = .ok (.ireturn, 1) := by decide +kernel
theorem dX11_answer_0 : decode cX11_answer 0 = .ok (.aload_n 0, 1) := by decide +kernel
theorem dX11_answer_1 : decode cX11_answer 1 = .ok (.iconst 0, 1) := by decide +kernel
theorem dX11_answer_2 : decode cX11_answer 2 = .ok (.putfield 62, 3) := by decide +kernel
theorem dX11_answer_5 : decode cX11_answer 5 = .ok (.iload_n 1, 1) := by decide +kernel
theorem dX11_answer_6 : decode cX11_answer 6 = .ok (.ireturn, 1) := by decide +kernel
theorem dX11_denied_0 : decode cX11_denied 0 = .ok (.aload_n 0, 1) := by decide +kernel
theorem dX11_denied_1 : decode cX11_denied 1 = .ok (.iload_n 1, 1) := by decide +kernel
theorem dX11_denied_2 : decode cX11_denied 2 = .ok (.putfield 62, 3) := by decide +kernel
theorem dX11_denied_5 : decode cX11_denied 5 = .ok (.iconst 0, 1) := by decide +kernel
theorem dX11_denied_6 : decode cX11_denied 6 = .ok (.ireturn, 1) := by decide +kernel
theorem dX11_granted_0 : decode cX11_granted 0 = .ok (.aload_n 0, 1) := by decide +kernel
theorem dX11_granted_1 : decode cX11_granted 1 = .ok (.iconst 0, 1) := by decide +kernel
theorem dX11_granted_2 : decode cX11_granted 2 = .ok (.putfield 62, 3) := by decide +kernel
theorem dX11_granted_5 : decode cX11_granted 5 = .ok (.iconst 1, 1) := by decide +kernel
theorem dX11_granted_6 : decode cX11_granted 6 = .ok (.ireturn, 1) := by decide +kernel
theorem dX11_isHouse_0 : decode cX11_isHouse 0 = .ok (.iload_n 1, 1) := by decide +kernel
theorem dX11_isHouse_1 : decode cX11_isHouse 1 = .ok (.ifCond .lt 18, 3) := by decide +kernel
theorem dX11_isHouse_4 : decode cX11_isHouse 4 = .ok (.iload_n 1, 1) := by decide +kernel
theorem dX11_isHouse_5 : decode cX11_isHouse 5 = .ok (.aload_n 0, 1) := by decide +kernel
theorem dX11_isHouse_6 : decode cX11_isHouse 6 = .ok (.getfield 20, 3) := by decide +kernel
theorem dX11_isHouse_9 : decode cX11_isHouse 9 = .ok (.getfield 201, 3) := by decide +kernel
theorem dX11_isHouse_12 : decode cX11_isHouse 12 = .ok (.if_icmp .ge 7, 3) := by decide +kernel
theorem dX11_isHouse_15 : decode cX11_isHouse 15 = .ok (.iconst 1, 1) := by decide +kernel
theorem dX11_isHouse_16 : decode cX11_isHouse 16 = .ok (.goto 4, 3) := by decide +kernel
theorem dX11_isHouse_19 : decode cX11_isHouse 19 = .ok (.iconst 0, 1) := by decide +kernel
theorem dX11_isHouse_20 : decode cX11_isHouse 20 = .ok (.ireturn, 1) := by decide +kernel
theorem dX11_isPerson_0 : decode cX11_isPerson 0 = .ok (.iload_n 1, 1) := by decide +kernel
theorem dX11_isPerson_1 : decode cX11_isPerson 1 = .ok (.ifCond .lt 18, 3) := by decide +kernel
theorem dX11_isPerson_4 : decode cX11_isPerson 4 = .ok (.iload_n 1, 1) := by decide +kernel
theorem dX11_isPerson_5 : decode cX11_isPerson 5 = .ok (.aload_n 0, 1) := by decide +kernel
theorem dX11_isPerson_6 : decode cX11_isPerson 6 = .ok (.getfield 20, 3) := by decide +kernel
theorem dX11_isPerson_9 : decode cX11_isPerson 9 = .ok (.getfield 102, 3) := by decide +kernel
theorem dX11_isPerson_12 : decode cX11_isPerson 12 = .ok (.if_icmp .ge 7, 3) := by decide +kernel
theorem dX11_isPerson_15 : decode cX11_isPerson 15 = .ok (.iconst 1, 1) := by decide +kernel
theorem dX11_isPerson_16 : decode cX11_isPerson 16 = .ok (.goto 4, 3) := by decide +kernel
theorem dX11_isPerson_19 : decode cX11_isPerson 19 = .ok (.iconst 0, 1) := by decide +kernel
theorem dX11_isPerson_20 : decode cX11_isPerson 20 = .ok (.ireturn, 1) := by decide +kernel
theorem dX11_isGood_0 : decode cX11_isGood 0 = .ok (.iload_n 1, 1) := by decide +kernel
theorem dX11_isGood_1 : decode cX11_isGood 1 = .ok (.ifCond .lt 18, 3) := by decide +kernel
theorem dX11_isGood_4 : decode cX11_isGood 4 = .ok (.iload_n 1, 1) := by decide +kernel
theorem dX11_isGood_5 : decode cX11_isGood 5 = .ok (.aload_n 0, 1) := by decide +kernel
theorem dX11_isGood_6 : decode cX11_isGood 6 = .ok (.getfield 20, 3) := by decide +kernel
theorem dX11_isGood_9 : decode cX11_isGood 9 = .ok (.getfield 123, 3) := by decide +kernel
theorem dX11_isGood_12 : decode cX11_isGood 12 = .ok (.if_icmp .ge 7, 3) := by decide +kernel
theorem dX11_isGood_15 : decode cX11_isGood 15 = .ok (.iconst 1, 1) := by decide +kernel
theorem dX11_isGood_16 : decode cX11_isGood 16 = .ok (.goto 4, 3) := by decide +kernel
theorem dX11_isGood_19 : decode cX11_isGood 19 = .ok (.iconst 0, 1) := by decide +kernel
theorem dX11_isGood_20 : decode cX11_isGood 20 = .ok (.ireturn, 1) := by decide +kernel
theorem dX11_isVisit_0 : decode cX11_isVisit 0 = .ok (.iload_n 1, 1) := by decide +kernel
theorem dX11_isVisit_1 : decode cX11_isVisit 1 = .ok (.ifCond .lt 18, 3) := by decide +kernel
theorem dX11_isVisit_4 : decode cX11_isVisit 4 = .ok (.iload_n 1, 1) := by decide +kernel
theorem dX11_isVisit_5 : decode cX11_isVisit 5 = .ok (.aload_n 0, 1) := by decide +kernel
theorem dX11_isVisit_6 : decode cX11_isVisit 6 = .ok (.getfield 20, 3) := by decide +kernel
theorem dX11_isVisit_9 : decode cX11_isVisit 9 = .ok (.getfield 231, 3) := by decide +kernel
theorem dX11_isVisit_12 : decode cX11_isVisit 12 = .ok (.if_icmp .ge 7, 3) := by decide +kernel
theorem dX11_isVisit_15 : decode cX11_isVisit 15 = .ok (.iconst 1, 1) := by decide +kernel
theorem dX11_isVisit_16 : decode cX11_isVisit 16 = .ok (.goto 4, 3) := by decide +kernel
theorem dX11_isVisit_19 : decode cX11_isVisit 19 = .ok (.iconst 0, 1) := by decide +kernel
theorem dX11_isVisit_20 : decode cX11_isVisit 20 = .ok (.ireturn, 1) := by decide +kernel
theorem dX11_isPrint_0 : decode cX11_isPrint 0 = .ok (.iload_n 1, 1) := by decide +kernel
theorem dX11_isPrint_1 : decode cX11_isPrint 1 = .ok (.ifCond .lt 18, 3) := by decide +kernel
theorem dX11_isPrint_4 : decode cX11_isPrint 4 = .ok (.iload_n 1, 1) := by decide +kernel
theorem dX11_isPrint_5 : decode cX11_isPrint 5 = .ok (.aload_n 0, 1) := by decide +kernel
theorem dX11_isPrint_6 : decode cX11_isPrint 6 = .ok (.getfield 20, 3) := by decide +kernel
theorem dX11_isPrint_9 : decode cX11_isPrint 9 = .ok (.getfield 274, 3) := by decide +kernel
theorem dX11_isPrint_12 : decode cX11_isPrint 12 = .ok (.if_icmp .ge 7, 3) := by decide +kernel
theorem dX11_isPrint_15 : decode cX11_isPrint 15 = .ok (.iconst 1, 1) := by decide +kernel
theorem dX11_isPrint_16 : decode cX11_isPrint 16 = .ok (.goto 4, 3) := by decide +kernel
theorem dX11_isPrint_19 : decode cX11_isPrint 19 = .ok (.iconst 0, 1) := by decide +kernel
theorem dX11_isPrint_20 : decode cX11_isPrint 20 = .ok (.ireturn, 1) := by decide +kernel
theorem dX11_isHour_0 : decode cX11_isHour 0 = .ok (.iload_n 0, 1) := by decide +kernel
theorem dX11_isHour_1 : decode cX11_isHour 1 = .ok (.ifCond .lt 13, 3) := by decide +kernel
theorem dX11_isHour_4 : decode cX11_isHour 4 = .ok (.iload_n 0, 1) := by decide +kernel
theorem dX11_isHour_5 : decode cX11_isHour 5 = .ok (.bipush 24, 2) := by decide +kernel
theorem dX11_isHour_7 : decode cX11_isHour 7 = .ok (.if_icmp .ge 7, 3) := by decide +kernel
theorem dX11_isHour_10 : decode cX11_isHour 10 = .ok (.iconst 1, 1) := by decide +kernel
theorem dX11_isHour_11 : decode cX11_isHour 11 = .ok (.goto 4, 3) := by decide +kernel
theorem dX11_isHour_14 : decode cX11_isHour 14 = .ok (.iconst 0, 1) := by decide +kernel
theorem dX11_isHour_15 : decode cX11_isHour 15 = .ok (.ireturn, 1) := by decide +kernel
theorem dX11_isSeed_0 : decode cX11_isSeed 0 = .ok (.iload_n 0, 1) := by decide +kernel
theorem dX11_isSeed_1 : decode cX11_isSeed 1 = .ok (.ifCond .lt 14, 3) := by decide +kernel
theorem dX11_isSeed_4 : decode cX11_isSeed 4 = .ok (.iload_n 0, 1) := by decide +kernel
theorem dX11_isSeed_5 : decode cX11_isSeed 5 = .ok (.ldc_w 375, 3) := by decide +kernel
theorem dX11_isSeed_8 : decode cX11_isSeed 8 = .ok (.if_icmp .gt 7, 3) := by decide +kernel
theorem dX11_isSeed_11 : decode cX11_isSeed 11 = .ok (.iconst 1, 1) := by decide +kernel
theorem dX11_isSeed_12 : decode cX11_isSeed 12 = .ok (.goto 4, 3) := by decide +kernel
theorem dX11_isSeed_15 : decode cX11_isSeed 15 = .ok (.iconst 0, 1) := by decide +kernel
theorem dX11_isSeed_16 : decode cX11_isSeed 16 = .ok (.ireturn, 1) := by decide +kernel
