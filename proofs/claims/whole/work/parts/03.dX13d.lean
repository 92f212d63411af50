theorem dX13_ask_73 : decode cX13_ask 73 = .ok (.bipush 6, 2) := by decide +kernel
theorem dX13_ask_75 : decode cX13_ask 75 = .ok (.iload 4, 2) := by decide +kernel
theorem dX13_ask_77 : decode cX13_ask 77 = .ok (.imul, 1) := by decide +kernel
theorem dX13_ask_78 : decode cX13_ask 78 = .ok (.iload 6, 2) := by decide +kernel
theorem dX13_ask_80 : decode cX13_ask 80 = .ok (.iadd, 1) := by decide +kernel
theorem dX13_ask_81 : decode cX13_ask 81 = .ok (.iaload, 1) := by decide +kernel
theorem dX13_ask_82 : decode cX13_ask 82 = .ok (.iload 5, 2) := by decide +kernel
theorem dX13_ask_84 : decode cX13_ask 84 = .ok (.if_icmp .le 18, 3) := by decide +kernel
theorem dX13_ask_87 : decode cX13_ask 87 = .ok (.aload_n 0, 1) := by decide +kernel
theorem dX13_ask_88 : decode cX13_ask 88 = .ok (.getfield 48, 3) := by decide +kernel
theorem dX13_ask_91 : decode cX13_ask 91 = .ok (.bipush 6, 2) := by decide +kernel
theorem dX13_ask_93 : decode cX13_ask 93 = .ok (.iload 4, 2) := by decide +kernel
theorem dX13_ask_95 : decode cX13_ask 95 = .ok (.imul, 1) := by decide +kernel
theorem dX13_ask_96 : decode cX13_ask 96 = .ok (.iload 6, 2) := by decide +kernel
theorem dX13_ask_98 : decode cX13_ask 98 = .ok (.iadd, 1) := by decide +kernel
theorem dX13_ask_99 : decode cX13_ask 99 = .ok (.iaload, 1) := by decide +kernel
theorem dX13_ask_100 : decode cX13_ask 100 = .ok (.istore 5, 2) := by decide +kernel
theorem dX13_ask_102 : decode cX13_ask 102 = .ok (.iinc 6 1, 3) := by decide +kernel
theorem dX13_ask_105 : decode cX13_ask 105 = .ok (.goto (-48), 3) := by decide +kernel
theorem dX13_ask_108 : decode cX13_ask 108 = .ok (.iload_n 2, 1) := by decide +kernel
theorem dX13_ask_109 : decode cX13_ask 109 = .ok (.bipush (-2), 2) := by decide +kernel
theorem dX13_ask_111 : decode cX13_ask 111 = .ok (.if_icmp .eq 12, 3) := by decide +kernel
theorem dX13_ask_114 : decode cX13_ask 114 = .ok (.iload 5, 2) := by decide +kernel
theorem dX13_ask_116 : decode cX13_ask 116 = .ok (.iload_n 3, 1) := by decide +kernel
theorem dX13_ask_117 : decode cX13_ask 117 = .ok (.if_icmp .lt 6, 3) := by decide +kernel
theorem dX13_ask_120 : decode cX13_ask 120 = .ok (.goto 9, 3) := by decide +kernel
theorem dX13_ask_123 : decode cX13_ask 123 = .ok (.iload 4, 2) := by decide +kernel
theorem dX13_ask_125 : decode cX13_ask 125 = .ok (.istore_n 2, 1) := by decide +kernel
theorem dX13_ask_126 : decode cX13_ask 126 = .ok (.iload 5, 2) := by decide +kernel
theorem dX13_ask_128 : decode cX13_ask 128 = .ok (.istore_n 3, 1) := by decide +kernel
theorem dX13_ask_129 : decode cX13_ask 129 = .ok (.iinc 4 1, 3) := by decide +kernel
theorem dX13_ask_132 : decode cX13_ask 132 = .ok (.goto (-100), 3) := by decide +kernel
theorem dX13_ask_135 : decode cX13_ask 135 = .ok (.aload_n 0, 1) := by decide +kernel
theorem dX13_ask_136 : decode cX13_ask 136 = .ok (.iload_n 2, 1) := by decide +kernel
theorem dX13_ask_137 : decode cX13_ask 137 = .ok (.invokevirtual 61, 3) := by decide +kernel
theorem dX13_ask_140 : decode cX13_ask 140 = .ok (.ireturn, 1) := by decide +kernel
theorem dX13_has_0 : decode cX13_has 0 = .ok (.iconst 0, 1) := by decide +kernel
theorem dX13_has_1 : decode cX13_has 1 = .ok (.istore_n 3, 1) := by decide +kernel
theorem dX13_has_2 : decode cX13_has 2 = .ok (.iconst 0, 1) := by decide +kernel
theorem dX13_has_3 : decode cX13_has 3 = .ok (.istore 4, 2) := by decide +kernel
theorem dX13_has_5 : decode cX13_has 5 = .ok (.iconst 0, 1) := by decide +kernel
theorem dX13_has_6 : decode cX13_has 6 = .ok (.istore 5, 2) := by decide +kernel
theorem dX13_has_8 : decode cX13_has 8 = .ok (.iload 5, 2) := by decide +kernel
theorem dX13_has_10 : decode cX13_has 10 = .ok (.aload_n 0, 1) := by decide +kernel
theorem dX13_has_11 : decode cX13_has 11 = .ok (.getfield 335, 3) := by decide +kernel
theorem dX13_has_14 : decode cX13_has 14 = .ok (.getfield 199, 3) := by decide +kernel
theorem dX13_has_17 : decode cX13_has 17 = .ok (.if_icmp .ge 66, 3) := by decide +kernel
theorem dX13_has_20 : decode cX13_has 20 = .ok (.aload_n 0, 1) := by decide +kernel
theorem dX13_has_21 : decode cX13_has 21 = .ok (.getfield 335, 3) := by decide +kernel
theorem dX13_has_24 : decode cX13_has 24 = .ok (.iload 5, 2) := by decide +kernel
theorem dX13_has_26 : decode cX13_has 26 = .ok (.bipush 10, 2) := by decide +kernel
theorem dX13_has_28 : decode cX13_has 28 = .ok (.bipush 10, 2) := by decide +kernel
theorem dX13_has_30 : decode cX13_has 30 = .ok (.iload_n 1, 1) := by decide +kernel
theorem dX13_has_31 : decode cX13_has 31 = .ok (.imul, 1) := by decide +kernel
theorem dX13_has_32 : decode cX13_has 32 = .ok (.iadd, 1) := by decide +kernel
theorem dX13_has_33 : decode cX13_has 33 = .ok (.invokevirtual 467, 3) := by decide +kernel
theorem dX13_has_36 : decode cX13_has 36 = .ok (.invokestatic 385, 3) := by decide +kernel
theorem dX13_has_39 : decode cX13_has 39 = .ok (.aload_n 0, 1) := by decide +kernel
theorem dX13_has_40 : decode cX13_has 40 = .ok (.getfield 335, 3) := by decide +kernel
theorem dX13_has_43 : decode cX13_has 43 = .ok (.iload 5, 2) := by decide +kernel
theorem dX13_has_45 : decode cX13_has 45 = .ok (.bipush 10, 2) := by decide +kernel
theorem dX13_has_47 : decode cX13_has 47 = .ok (.bipush 10, 2) := by decide +kernel
theorem dX13_has_49 : decode cX13_has 49 = .ok (.iload_n 2, 1) := by decide +kernel
theorem dX13_has_50 : decode cX13_has 50 = .ok (.imul, 1) := by decide +kernel
theorem dX13_has_51 : decode cX13_has 51 = .ok (.iadd, 1) := by decide +kernel
theorem dX13_has_52 : decode cX13_has 52 = .ok (.invokevirtual 467, 3) := by decide +kernel
theorem dX13_has_55 : decode cX13_has 55 = .ok (.invokestatic 385, 3) := by decide +kernel
theorem dX13_has_58 : decode cX13_has 58 = .ok (.isub, 1) := by decide +kernel
theorem dX13_has_59 : decode cX13_has 59 = .ok (.istore 6, 2) := by decide +kernel
theorem dX13_has_61 : decode cX13_has 61 = .ok (.iload 6, 2) := by decide +kernel
theorem dX13_has_63 : decode cX13_has 63 = .ok (.ifCond .le 6, 3) := by decide +kernel
theorem dX13_has_66 : decode cX13_has 66 = .ok (.iinc 3 1, 3) := by decide +kernel
theorem dX13_has_69 : decode cX13_has 69 = .ok (.iload 6, 2) := by decide +kernel
theorem dX13_has_71 : decode cX13_has 71 = .ok (.ifCond .ne 6, 3) := by decide +kernel
theorem dX13_has_74 : decode cX13_has 74 = .ok (.iinc 4 1, 3) := by decide +kernel
theorem dX13_has_77 : decode cX13_has 77 = .ok (.iinc 5 1, 3) := by decide +kernel
theorem dX13_has_80 : decode cX13_has 80 = .ok (.goto (-72), 3) := by decide +kernel
theorem dX13_has_83 : decode cX13_has 83 = .ok (.iconst 3, 1) := by decide +kernel
theorem dX13_has_84 : decode cX13_has 84 = .ok (.iload_n 3, 1) := by decide +kernel
theorem dX13_has_85 : decode cX13_has 85 = .ok (.iload 4, 2) := by decide +kernel
theorem dX13_has_87 : decode cX13_has 87 = .ok (.iconst 2, 1) := by decide +kernel
theorem dX13_has_88 : decode cX13_has 88 = .ok (.idiv, 1) := by decide +kernel
theorem dX13_has_89 : decode cX13_has 89 = .ok (.iadd, 1) := by decide +kernel
theorem dX13_has_90 : decode cX13_has 90 = .ok (.imul, 1) := by decide +kernel
theorem dX13_has_91 : decode cX13_has 91 = .ok (.iconst 2, 1) := by decide +kernel
theorem dX13_has_92 : decode cX13_has 92 = .ok (.iload_n 1, 1) := by decide +kernel
theorem dX13_has_93 : decode cX13_has 93 = .ok (.imul, 1) := by decide +kernel
theorem dX13_has_94 : decode cX13_has 94 = .ok (.iadd, 1) := by decide +kernel
theorem dX13_has_95 : decode cX13_has 95 = .ok (.ireturn, 1) := by decide +kernel
theorem dX13_shop_0 : decode cX13_shop 0 = .ok (.aload_n 0, 1) := by decide +kernel
theorem dX13_shop_1 : decode cX13_shop 1 = .ok (.iconst 0, 1) := by decide +kernel
theorem dX13_shop_2 : decode cX13_shop 2 = .ok (.putfield 51, 3) := by decide +kernel
theorem dX13_shop_5 : decode cX13_shop 5 = .ok (.aload_n 0, 1) := by decide +kernel
theorem dX13_shop_6 : decode cX13_shop 6 = .ok (.getfield 335, 3) := by decide +kernel
theorem dX13_shop_9 : decode cX13_shop 9 = .ok (.ifnonnull 9, 3) := by decide +kernel
theorem dX13_shop_12 : decode cX13_shop 12 = .ok (.aload_n 0, 1) := by decide +kernel
theorem dX13_shop_13 : decode cX13_shop 13 = .ok (.iconst 1, 1) := by decide +kernel
theorem dX13_shop_14 : decode cX13_shop 14 = .ok (.invokevirtual 470, 3) := by decide +kernel
theorem dX13_shop_17 : decode cX13_shop 17 = .ok (.ireturn, 1) := by decide +kernel
theorem dX13_shop_18 : decode cX13_shop 18 = .ok (.iload_n 1, 1) := by decide +kernel
theorem dX13_shop_19 : decode cX13_shop 19 = .ok (.iconst 0, 1) := by decide +kernel
theorem dX13_shop_20 : decode cX13_shop 20 = .ok (.iconst 5, 1) := by decide +kernel
theorem dX13_shop_21 : decode cX13_shop 21 = .ok (.invokestatic 129, 3) := by decide +kernel
theorem dX13_shop_24 : decode cX13_shop 24 = .ok (.ifCond .eq 12, 3) := by decide +kernel
theorem dX13_shop_27 : decode cX13_shop 27 = .ok (.iload_n 2, 1) := by decide +kernel
theorem dX13_shop_28 : decode cX13_shop 28 = .ok (.iconst 0, 1) := by decide +kernel
theorem dX13_shop_29 : decode cX13_shop 29 = .ok (.iconst 5, 1) := by decide +kernel
theorem dX13_shop_30 : decode cX13_shop 30 = .ok (.invokestatic 129, 3) := by decide +kernel
theorem dX13_shop_33 : decode cX13_shop 33 = .ok (.ifCond .ne 9, 3) := by decide +kernel
theorem dX13_shop_36 : decode cX13_shop 36 = .ok (.aload_n 0, 1) := by decide +kernel
theorem dX13_shop_37 : decode cX13_shop 37 = .ok (.iconst 2, 1) := by decide +kernel
theorem dX13_shop_38 : decode cX13_shop 38 = .ok (.invokevirtual 470, 3) := by decide +kernel
theorem dX13_shop_41 : decode cX13_shop 41 = .ok (.ireturn, 1) := by decide +kernel
theorem dX13_shop_42 : decode cX13_shop 42 = .ok (.aload_n 0, 1) := by decide +kernel
theorem dX13_shop_43 : decode cX13_shop 43 = .ok (.iload_n 3, 1) := by decide +kernel
theorem dX13_shop_44 : decode cX13_shop 44 = .ok (.ifCond .eq 12, 3) := by decide +kernel
theorem dX13_shop_47 : decode cX13_shop 47 = .ok (.aload_n 0, 1) := by decide +kernel
theorem dX13_shop_48 : decode cX13_shop 48 = .ok (.iload_n 2, 1) := by decide +kernel
theorem dX13_shop_49 : decode cX13_shop 49 = .ok (.iload_n 1, 1) := by decide +kernel
theorem dX13_shop_50 : decode cX13_shop 50 = .ok (.invokevirtual 473, 3) := by decide +kernel
theorem dX13_shop_53 : decode cX13_shop 53 = .ok (.goto 9, 3) := by decide +kernel
theorem dX13_shop_56 : decode cX13_shop 56 = .ok (.aload_n 0, 1) := by decide +kernel
theorem dX13_shop_57 : decode cX13_shop 57 = .ok (.iload_n 1, 1) := by decide +kernel
theorem dX13_shop_58 : decode cX13_shop 58 = .ok (.iload_n 2, 1) := by decide +kernel
theorem dX13_shop_59 : decode cX13_shop 59 = .ok (.invokevirtual 473, 3) := by decide +kernel
theorem dX13_shop_62 : decode cX13_shop 62 = .ok (.invokevirtual 61, 3) := by decide +kernel
theorem dX13_shop_65 : decode cX13_shop 65 = .ok (.ireturn, 1) := by decide +kernel
theorem dX13_isRest_0 : decode cX13_isRest 0 = .ok (.iconst 0, 1) := by decide +kernel
theorem dX13_isRest_1 : decode cX13_isRest 1 = .ok (.istore_n 3, 1) := by decide +kernel
theorem dX13_isRest_2 : decode cX13_isRest 2 = .ok (.iload_n 3, 1) := by decide +kernel
theorem dX13_isRest_3 : decode cX13_isRest 3 = .ok (.bipush 6, 2) := by decide +kernel
theorem dX13_isRest_5 : decode cX13_isRest 5 = .ok (.if_icmp .ge 41, 3) := by decide +kernel
theorem dX13_isRest_8 : decode cX13_isRest 8 = .ok (.aload_n 0, 1) := by decide +kernel
theorem dX13_isRest_9 : decode cX13_isRest 9 = .ok (.iload_n 3, 1) := by decide +kernel
theorem dX13_isRest_10 : decode cX13_isRest 10 = .ok (.iload_n 2, 1) := by decide +kernel
theorem dX13_isRest_11 : decode cX13_isRest 11 = .ok (.invokevirtual 473, 3) := by decide +kernel
theorem dX13_isRest_14 : decode cX13_isRest 14 = .ok (.aload_n 0, 1) := by decide +kernel
theorem dX13_isRest_15 : decode cX13_isRest 15 = .ok (.iload_n 1, 1) := by decide +kernel
theorem dX13_isRest_16 : decode cX13_isRest 16 = .ok (.iload_n 2, 1) := by decide +kernel
theorem dX13_isRest_17 : decode cX13_isRest 17 = .ok (.invokevirtual 473, 3) := by decide +kernel
theorem dX13_isRest_20 : decode cX13_isRest 20 = .ok (.if_icmp .gt 18, 3) := by decide +kernel
theorem dX13_isRest_23 : decode cX13_isRest 23 = .ok (.aload_n 0, 1) := by decide +kernel
theorem dX13_isRest_24 : decode cX13_isRest 24 = .ok (.iload_n 3, 1) := by decide +kernel
theorem dX13_isRest_25 : decode cX13_isRest 25 = .ok (.iload_n 1, 1) := by decide +kernel
theorem dX13_isRest_26 : decode cX13_isRest 26 = .ok (.invokevirtual 473, 3) := by decide +kernel
theorem dX13_isRest_29 : decode cX13_isRest 29 = .ok (.aload_n 0, 1) := by decide +kernel
theorem dX13_isRest_30 : decode cX13_isRest 30 = .ok (.iload_n 2, 1) := by decide +kernel
theorem dX13_isRest_31 : decode cX13_isRest 31 = .ok (.iload_n 1, 1) := by decide +kernel
theorem dX13_isRest_32 : decode cX13_isRest 32 = .ok (.invokevirtual 473, 3) := by decide +kernel
theorem dX13_isRest_35 : decode cX13_isRest 35 = .ok (.if_icmp .le 5, 3) := by decide +kernel
theorem dX13_isRest_38 : decode cX13_isRest 38 = .ok (.iconst 0, 1) := by decide +kernel
theorem dX13_isRest_39 : decode cX13_isRest 39 = .ok (.ireturn, 1) := by decide +kernel
theorem dX13_isRest_40 : decode cX13_isRest 40 = .ok (.iinc 3 1, 3) := by decide +kernel
theorem dX13_isRest_43 : decode cX13_isRest 43 = .ok (.goto (-41), 3) := by decide +kernel
theorem dX13_isRest_46 : decode cX13_isRest 46 = .ok (.iconst 1, 1) := by decide +kernel
theorem dX13_isRest_47 : decode cX13_isRest 47 = .ok (.ireturn, 1) := by decide +kernel
theorem dX13_rests_0 : decode cX13_rests 0 = .ok (.aload_n 0, 1) := by decide +kernel
theorem dX13_rests_1 : decode cX13_rests 1 = .ok (.iconst 0, 1) := by decide +kernel
theorem dX13_rests_2 : decode cX13_rests 2 = .ok (.putfield 51, 3) := by decide +kernel
theorem dX13_rests_5 : decode cX13_rests 5 = .ok (.aload_n 0, 1) := by decide +kernel
theorem dX13_rests_6 : decode cX13_rests 6 = .ok (.getfield 335, 3) := by decide +kernel
theorem dX13_rests_9 : decode cX13_rests 9 = .ok (.ifnonnull 9, 3) := by decide +kernel
theorem dX13_rests_12 : decode cX13_rests 12 = .ok (.aload_n 0, 1) := by decide +kernel
theorem dX13_rests_13 : decode cX13_rests 13 = .ok (.iconst 1, 1) := by decide +kernel
theorem dX13_rests_14 : decode cX13_rests 14 = .ok (.invokevirtual 57, 3) := by decide +kernel
theorem dX13_rests_17 : decode cX13_rests 17 = .ok (.ireturn, 1) := by decide +kernel
theorem dX13_rests_18 : decode cX13_rests 18 = .ok (.iconst 0, 1) := by decide +kernel
theorem dX13_rests_19 : decode cX13_rests 19 = .ok (.istore_n 1, 1) := by decide +kernel
theorem dX13_rests_20 : decode cX13_rests 20 = .ok (.iconst 0, 1) := by decide +kernel
theorem dX13_rests_21 : decode cX13_rests 21 = .ok (.istore_n 2, 1) := by decide +kernel
theorem dX13_rests_22 : decode cX13_rests 22 = .ok (.iload_n 2, 1) := by decide +kernel
theorem dX13_rests_23 : decode cX13_rests 23 = .ok (.bipush 36, 2) := by decide +kernel
theorem dX13_rests_25 : decode cX13_rests 25 = .ok (.if_icmp .ge 32, 3) := by decide +kernel
theorem dX13_rests_28 : decode cX13_rests 28 = .ok (.iload_n 1, 1) := by decide +kernel
theorem dX13_rests_29 : decode cX13_rests 29 = .ok (.aload_n 0, 1) := by decide +kernel
theorem dX13_rests_30 : decode cX13_rests 30 = .ok (.iload_n 2, 1) := by decide +kernel
theorem dX13_rests_31 : decode cX13_rests 31 = .ok (.bipush 6, 2) := by decide +kernel
theorem dX13_rests_33 : decode cX13_rests 33 = .ok (.idiv, 1) := by decide +kernel
theorem dX13_rests_34 : decode cX13_rests 34 = .ok (.iload_n 2, 1) := by decide +kernel
theorem dX13_rests_35 : decode cX13_rests 35 = .ok (.bipush 6, 2) := by decide +kernel
theorem dX13_rests_37 : decode cX13_rests 37 = .ok (.irem, 1) := by decide +kernel
theorem dX13_rests_38 : decode cX13_rests 38 = .ok (.invokevirtual 476, 3) := by decide +kernel
theorem dX13_rests_41 : decode cX13_rests 41 = .ok (.ifCond .eq 7, 3) := by decide +kernel
theorem dX13_rests_44 : decode cX13_rests 44 = .ok (.iconst 1, 1) := by decide +kernel
theorem dX13_rests_45 : decode cX13_rests 45 = .ok (.goto 4, 3) := by decide +kernel
theorem dX13_rests_48 : decode cX13_rests 48 = .ok (.iconst 0, 1) := by decide +kernel
theorem dX13_rests_49 : decode cX13_rests 49 = .ok (.iadd, 1) := by decide +kernel
theorem dX13_rests_50 : decode cX13_rests 50 = .ok (.istore_n 1, 1) := by decide +kernel
theorem dX13_rests_51 : decode cX13_rests 51 = .ok (.iinc 2 1, 3) := by decide +kernel
theorem dX13_rests_54 : decode cX13_rests 54 = .ok (.goto (-32), 3) := by decide +kernel
theorem dX13_rests_57 : decode cX13_rests 57 = .ok (.aload_n 0, 1) := by decide +kernel
theorem dX13_rests_58 : decode cX13_rests 58 = .ok (.iload_n 1, 1) := by decide +kernel
theorem dX13_rests_59 : decode cX13_rests 59 = .ok (.invokevirtual 61, 3) := by decide +kernel
theorem dX13_rests_62 : decode cX13_rests 62 = .ok (.ireturn, 1) := by decide +kernel
theorem dX13_rest_0 : decode cX13_rest 0 = .ok (.aload_n 0, 1) := by decide +kernel
theorem dX13_rest_1 : decode cX13_rest 1 = .ok (.iconst 0, 1) := by decide +kernel
theorem dX13_rest_2 : decode cX13_rest 2 = .ok (.putfield 51, 3) := by decide +kernel
theorem dX13_rest_5 : decode cX13_rest 5 = .ok (.aload_n 0, 1) := by decide +kernel
theorem dX13_rest_6 : decode cX13_rest 6 = .ok (.getfield 335, 3) := by decide +kernel
theorem dX13_rest_9 : decode cX13_rest 9 = .ok (.ifnonnull 9, 3) := by decide +kernel
theorem dX13_rest_12 : decode cX13_rest 12 = .ok (.aload_n 0, 1) := by decide +kernel
theorem dX13_rest_13 : decode cX13_rest 13 = .ok (.iconst 1, 1) := by decide +kernel
theorem dX13_rest_14 : decode cX13_rest 14 = .ok (.invokevirtual 57, 3) := by decide +kernel
theorem dX13_rest_17 : decode cX13_rest 17 = .ok (.ireturn, 1) := by decide +kernel
theorem dX13_rest_18 : decode cX13_rest 18 = .ok (.iconst 0, 1) := by decide +kernel
theorem dX13_rest_19 : decode cX13_rest 19 = .ok (.istore_n 1, 1) := by decide +kernel
theorem dX13_rest_20 : decode cX13_rest 20 = .ok (.iload_n 1, 1) := by decide +kernel
theorem dX13_rest_21 : decode cX13_rest 21 = .ok (.bipush 36, 2) := by decide +kernel
theorem dX13_rest_23 : decode cX13_rest 23 = .ok (.if_icmp .ge 41, 3) := by decide +kernel
theorem dX13_rest_26 : decode cX13_rest 26 = .ok (.aload_n 0, 1) := by decide +kernel
theorem dX13_rest_27 : decode cX13_rest 27 = .ok (.iload_n 1, 1) := by decide +kernel
theorem dX13_rest_28 : decode cX13_rest 28 = .ok (.bipush 6, 2) := by decide +kernel
theorem dX13_rest_30 : decode cX13_rest 30 = .ok (.idiv, 1) := by decide +kernel
theorem dX13_rest_31 : decode cX13_rest 31 = .ok (.iload_n 1, 1) := by decide +kernel
theorem dX13_rest_32 : decode cX13_rest 32 = .ok (.bipush 6, 2) := by decide +kernel
theorem dX13_rest_34 : decode cX13_rest 34 = .ok (.irem, 1) := by decide +kernel
theorem dX13_rest_35 : decode cX13_rest 35 = .ok (.invokevirtual 476, 3) := by decide +kernel
theorem dX13_rest_38 : decode cX13_rest 38 = .ok (.ifCond .eq 20, 3) := by decide +kernel
theorem dX13_rest_41 : decode cX13_rest 41 = .ok (.aload_n 0, 1) := by decide +kernel
theorem dX13_rest_42 : decode cX13_rest 42 = .ok (.bipush 10, 2) := by decide +kernel
theorem dX13_rest_44 : decode cX13_rest 44 = .ok (.iload_n 1, 1) := by decide +kernel
theorem dX13_rest_45 : decode cX13_rest 45 = .ok (.bipush 6, 2) := by decide +kernel
theorem dX13_rest_47 : decode cX13_rest 47 = .ok (.idiv, 1) := by decide +kernel
theorem dX13_rest_48 : decode cX13_rest 48 = .ok (.imul, 1) := by decide +kernel
theorem dX13_rest_49 : decode cX13_rest 49 = .ok (.iload_n 1, 1) := by decide +kernel
theorem dX13_rest_50 : decode cX13_rest 50 = .ok (.bipush 6, 2) := by decide +kernel
theorem dX13_rest_52 : decode cX13_rest 52 = .ok (.irem, 1) := by decide +kernel
theorem dX13_rest_53 : decode cX13_rest 53 = .ok (.iadd, 1) := by decide +kernel
theorem dX13_rest_54 : decode cX13_rest 54 = .ok (.invokevirtual 61, 3) := by decide +kernel
theorem dX13_rest_57 : decode cX13_rest 57 = .ok (.ireturn, 1) := by decide +kernel
theorem dX13_rest_58 : decode cX13_rest 58 = .ok (.iinc 1 1, 3) := by decide +kernel
theorem dX13_rest_61 : decode cX13_rest 61 = .ok (.goto (-41), 3) := by decide +kernel
theorem dX13_rest_64 : decode cX13_rest 64 = .ok (.aload_n 0, 1) := by decide +kernel
theorem dX13_rest_65 : decode cX13_rest 65 = .ok (.bipush (-2), 2) := by decide +kernel
theorem dX13_rest_67 : decode cX13_rest 67 = .ok (.invokevirtual 61, 3) := by decide +kernel
theorem dX13_rest_70 : decode cX13_rest 70 = .ok (.ireturn, 1) := by decide +kernel
theorem dX13_draw_0 : decode cX13_draw 0 = .ok (.aload_n 0, 1) := by decide +kernel
theorem dX13_draw_1 : decode cX13_draw 1 = .ok (.ldc2_w 479, 3) := by decide +kernel
theorem dX13_draw_4 : decode cX13_draw 4 = .ok (.aload_n 0, 1) := by decide +kernel
theorem dX13_draw_5 : decode cX13_draw 5 = .ok (.getfield 481, 3) := by decide +kernel
theorem dX13_draw_8 : decode cX13_draw 8 = .ok (.i2l, 1) := by decide +kernel
theorem dX13_draw_9 : decode cX13_draw 9 = .ok (.lmul, 1) := by decide +kernel
theorem dX13_draw_10 : decode cX13_draw 10 = .ok (.ldc2_w 484, 3) := by decide +kernel
theorem dX13_draw_13 : decode cX13_draw 13 = .ok (.ladd, 1) := by decide +kernel
theorem dX13_draw_14 : decode cX13_draw 14 = .ok (.ldc2_w 486, 3) := by decide +kernel
theorem dX13_draw_17 : decode cX13_draw 17 = .ok (.lrem, 1) := by decide +kernel
theorem dX13_draw_18 : decode cX13_draw 18 = .ok (.l2i, 1) := by decide +kernel
theorem dX13_draw_19 : decode cX13_draw 19 = .ok (.putfield 481, 3) := by decide +kernel
theorem dX13_draw_22 : decode cX13_draw 22 = .ok (.aload_n 0, 1) := by decide +kernel
theorem dX13_draw_23 : decode cX13_draw 23 = .ok (.getfield 481, 3) := by decide +kernel
theorem dX13_draw_26 : decode cX13_draw 26 = .ok (.iload_n 1, 1) := by decide +kernel
theorem dX13_draw_27 : decode cX13_draw 27 = .ok (.irem, 1) := by decide +kernel
theorem dX13_draw_28 : decode cX13_draw 28 = .ok (.ireturn, 1) := by decide +kernel
theorem dX13_runs_0 : decode cX13_runs 0 = .ok (.iconst 0, 1) := by decide +kernel
theorem dX13_runs_1 : decode cX13_runs 1 = .ok (.istore_n 2, 1) := by decide +kernel
theorem dX13_runs_2 : decode cX13_runs 2 = .ok (.aload_n 0, 1) := by decide +kernel
theorem dX13_runs_3 : decode cX13_runs 3 = .ok (.getfield 335, 3) := by decide +kernel
theorem dX13_runs_6 : decode cX13_runs 6 = .ok (.getfield 232, 3) := by decide +kernel
theorem dX13_runs_9 : decode cX13_runs 9 = .ok (.istore_n 3, 1) := by decide +kernel
theorem dX13_runs_10 : decode cX13_runs 10 = .ok (.iload_n 3, 1) := by decide +kernel
theorem dX13_runs_11 : decode cX13_runs 11 = .ok (.aload_n 0, 1) := by decide +kernel
theorem dX13_runs_12 : decode cX13_runs 12 = .ok (.getfield 335, 3) := by decide +kernel
theorem dX13_runs_15 : decode cX13_runs 15 = .ok (.getfield 234, 3) := by decide +kernel
theorem dX13_runs_18 : decode cX13_runs 18 = .ok (.if_icmp .ge 74, 3) := by decide +kernel
theorem dX13_runs_21 : decode cX13_runs 21 = .ok (.aload_n 0, 1) := by decide +kernel
theorem dX13_runs_22 : decode cX13_runs 22 = .ok (.aload_n 0, 1) := by decide +kernel
theorem dX13_runs_23 : decode cX13_runs 23 = .ok (.getfield 335, 3) := by decide +kernel
theorem dX13_runs_26 : decode cX13_runs 26 = .ok (.getfield 199, 3) := by decide +kernel
theorem dX13_runs_29 : decode cX13_runs 29 = .ok (.invokevirtual 488, 3) := by decide +kernel
theorem dX13_runs_32 : decode cX13_runs 32 = .ok (.istore 4, 2) := by decide +kernel
theorem dX13_runs_34 : decode cX13_runs 34 = .ok (.aload_n 0, 1) := by decide +kernel
theorem dX13_runs_35 : decode cX13_runs 35 = .ok (.getfield 335, 3) := by decide +kernel
theorem dX13_runs_38 : decode cX13_runs 38 = .ok (.iload 4, 2) := by decide +kernel
theorem dX13_runs_40 : decode cX13_runs 40 = .ok (.aload_n 0, 1) := by decide +kernel
theorem dX13_runs_41 : decode cX13_runs 41 = .ok (.getfield 335, 3) := by decide +kernel
theorem dX13_runs_44 : decode cX13_runs 44 = .ok (.getfield 249, 3) := by decide +kernel
theorem dX13_runs_47 : decode cX13_runs 47 = .ok (.aload_n 0, 1) := by decide +kernel
theorem dX13_runs_48 : decode cX13_runs 48 = .ok (.aload_n 0, 1) := by decide +kernel
theorem dX13_runs_49 : decode cX13_runs 49 = .ok (.getfield 335, 3) := by decide +kernel
theorem dX13_runs_52 : decode cX13_runs 52 = .ok (.getfield 196, 3) := by decide +kernel
theorem dX13_runs_55 : decode cX13_runs 55 = .ok (.invokevirtual 488, 3) := by decide +kernel
theorem dX13_runs_58 : decode cX13_runs 58 = .ok (.iaload, 1) := by decide +kernel
theorem dX13_runs_59 : decode cX13_runs 59 = .ok (.iload_n 3, 1) := by decide +kernel
theorem dX13_runs_60 : decode cX13_runs 60 = .ok (.invokevirtual 388, 3) := by decide +kernel
theorem dX13_runs_63 : decode cX13_runs 63 = .ok (.istore 5, 2) := by decide +kernel
theorem dX13_runs_65 : decode cX13_runs 65 = .ok (.iload_n 2, 1) := by decide +kernel
theorem dX13_runs_66 : decode cX13_runs 66 = .ok (.iload_n 1, 1) := by decide +kernel
theorem dX13_runs_67 : decode cX13_runs 67 = .ok (.bipush (-2), 2) := by decide +kernel
theorem dX13_runs_69 : decode cX13_runs 69 = .ok (.if_icmp .eq 9, 3) := by decide +kernel
theorem dX13_runs_72 : decode cX13_runs 72 = .ok (.iload_n 1, 1) := by decide +kernel
theorem dX13_runs_73 : decode cX13_runs 73 = .ok (.iload 4, 2) := by decide +kernel
theorem dX13_runs_75 : decode cX13_runs 75 = .ok (.if_icmp .ne 8, 3) := by decide +kernel
theorem dX13_runs_78 : decode cX13_runs 78 = .ok (.iload 5, 2) := by decide +kernel
theorem dX13_runs_80 : decode cX13_runs 80 = .ok (.goto 4, 3) := by decide +kernel
theorem dX13_runs_83 : decode cX13_runs 83 = .ok (.iconst 0, 1) := by decide +kernel
theorem dX13_runs_84 : decode cX13_runs 84 = .ok (.iadd, 1) := by decide +kernel
theorem dX13_runs_85 : decode cX13_runs 85 = .ok (.istore_n 2, 1) := by decide +kernel
theorem dX13_runs_86 : decode cX13_runs 86 = .ok (.iinc 3 1, 3) := by decide +kernel
theorem dX13_runs_89 : decode cX13_runs 89 = .ok (.goto (-79), 3) := by decide +kernel
theorem dX13_runs_92 : decode cX13_runs 92 = .ok (.iload_n 2, 1) := by decide +kernel
theorem dX13_runs_93 : decode cX13_runs 93 = .ok (.ireturn, 1) := by decide +kernel
theorem dX13_day_0 : decode cX13_day 0 = .ok (.aload_n 0, 1) := by decide +kernel
theorem dX13_day_1 : decode cX13_day 1 = .ok (.iconst 0, 1) := by decide +kernel
theorem dX13_day_2 : decode cX13_day 2 = .ok (.putfield 51, 3) := by decide +kernel
theorem dX13_day_5 : decode cX13_day 5 = .ok (.aload_n 0, 1) := by decide +kernel
theorem dX13_day_6 : decode cX13_day 6 = .ok (.getfield 335, 3) := by decide +kernel
theorem dX13_day_9 : decode cX13_day 9 = .ok (.ifnonnull 9, 3) := by decide +kernel
theorem dX13_day_12 : decode cX13_day 12 = .ok (.aload_n 0, 1) := by decide +kernel
theorem dX13_day_13 : decode cX13_day 13 = .ok (.iconst 1, 1) := by decide +kernel
theorem dX13_day_14 : decode cX13_day 14 = .ok (.invokevirtual 57, 3) := by decide +kernel
theorem dX13_day_17 : decode cX13_day 17 = .ok (.ireturn, 1) := by decide +kernel
theorem dX13_day_18 : decode cX13_day 18 = .ok (.iload_n 1, 1) := by decide +kernel
theorem dX13_day_19 : decode cX13_day 19 = .ok (.iconst 0, 1) := by decide +kernel
theorem dX13_day_20 : decode cX13_day 20 = .ok (.ldc_w 491, 3) := by decide +kernel
theorem dX13_day_23 : decode cX13_day 23 = .ok (.invokestatic 129, 3) := by decide +kernel
theorem dX13_day_26 : decode cX13_day 26 = .ok (.ifCond .ne 9, 3) := by decide +kernel
theorem dX13_day_29 : decode cX13_day 29 = .ok (.aload_n 0, 1) := by decide +kernel
theorem dX13_day_30 : decode cX13_day 30 = .ok (.iconst 2, 1) := by decide +kernel
theorem dX13_day_31 : decode cX13_day 31 = .ok (.invokevirtual 57, 3) := by decide +kernel
theorem dX13_day_34 : decode cX13_day 34 = .ok (.ireturn, 1) := by decide +kernel
theorem dX13_day_35 : decode cX13_day 35 = .ok (.aload_n 0, 1) := by decide +kernel
theorem dX13_day_36 : decode cX13_day 36 = .ok (.iload_n 1, 1) := by decide +kernel
theorem dX13_day_37 : decode cX13_day 37 = .ok (.putfield 481, 3) := by decide +kernel
theorem dX13_day_40 : decode cX13_day 40 = .ok (.aload_n 0, 1) := by decide +kernel
theorem dX13_day_41 : decode cX13_day 41 = .ok (.aload_n 0, 1) := by decide +kernel
theorem dX13_day_42 : decode cX13_day 42 = .ok (.bipush (-2), 2) := by decide +kernel
theorem dX13_day_44 : decode cX13_day 44 = .ok (.invokevirtual 492, 3) := by decide +kernel
theorem dX13_day_47 : decode cX13_day 47 = .ok (.invokevirtual 61, 3) := by decide +kernel
theorem dX13_day_50 : decode cX13_day 50 = .ok (.ireturn, 1) := by decide +kernel
theorem dX13_dayOf_0 : decode cX13_dayOf 0 = .ok (.aload_n 0, 1) := by decide +kernel
theorem dX13_dayOf_1 : decode cX13_dayOf 1 = .ok (.iconst 0, 1) := by decide +kernel
theorem dX13_dayOf_2 : decode cX13_dayOf 2 = .ok (.putfield 51, 3) := by decide +kernel
theorem dX13_dayOf_5 : decode cX13_dayOf 5 = .ok (.aload_n 0, 1) := by decide +kernel
theorem dX13_dayOf_6 : decode cX13_dayOf 6 = .ok (.iload_n 1, 1) := by decide +kernel
theorem dX13_dayOf_7 : decode cX13_dayOf 7 = .ok (.invokevirtual 355, 3) := by decide +kernel
theorem dX13_dayOf_10 : decode cX13_dayOf 10 = .ok (.ifCond .ne 9, 3) := by decide +kernel
theorem dX13_dayOf_13 : decode cX13_dayOf 13 = .ok (.aload_n 0, 1) := by decide +kernel
theorem dX13_dayOf_14 : decode cX13_dayOf 14 = .ok (.iconst 1, 1) := by decide +kernel
theorem dX13_dayOf_15 : decode cX13_dayOf 15 = .ok (.invokevirtual 57, 3) := by decide +kernel
theorem dX13_dayOf_18 : decode cX13_dayOf 18 = .ok (.ireturn, 1) := by decide +kernel
theorem dX13_dayOf_19 : decode cX13_dayOf 19 = .ok (.iload_n 2, 1) := by decide +kernel
theorem dX13_dayOf_20 : decode cX13_dayOf 20 = .ok (.iconst 0, 1) := by decide +kernel
theorem dX13_dayOf_21 : decode cX13_dayOf 21 = .ok (.ldc_w 491, 3) := by decide +kernel
theorem dX13_dayOf_24 : decode cX13_dayOf 24 = .ok (.invokestatic 129, 3) := by decide +kernel
theorem dX13_dayOf_27 : decode cX13_dayOf 27 = .ok (.ifCond .eq 13, 3) := by decide +kernel
theorem dX13_dayOf_30 : decode cX13_dayOf 30 = .ok (.iload_n 3, 1) := by decide +kernel
theorem dX13_dayOf_31 : decode cX13_dayOf 31 = .ok (.iconst 1, 1) := by decide +kernel
theorem dX13_dayOf_32 : decode cX13_dayOf 32 = .ok (.bipush 20, 2) := by decide +kernel
theorem dX13_dayOf_34 : decode cX13_dayOf 34 = .ok (.invokestatic 129, 3) := by decide +kernel
theorem dX13_dayOf_37 : decode cX13_dayOf 37 = .ok (.ifCond .ne 9, 3) := by decide +kernel
theorem dX13_dayOf_40 : decode cX13_dayOf 40 = .ok (.aload_n 0, 1) := by decide +kernel
theorem dX13_dayOf_41 : decode cX13_dayOf 41 = .ok (.iconst 2, 1) := by decide +kernel
theorem dX13_dayOf_42 : decode cX13_dayOf 42 = .ok (.invokevirtual 57, 3) := by decide +kernel
theorem dX13_dayOf_45 : decode cX13_dayOf 45 = .ok (.ireturn, 1) := by decide +kernel
theorem dX13_dayOf_46 : decode cX13_dayOf 46 = .ok (.aload_n 0, 1) := by decide +kernel
theorem dX13_dayOf_47 : decode cX13_dayOf 47 = .ok (.iload_n 2, 1) := by decide +kernel
theorem dX13_dayOf_48 : decode cX13_dayOf 48 = .ok (.putfield 481, 3) := by decide +kernel
theorem dX13_dayOf_51 : decode cX13_dayOf 51 = .ok (.iconst 0, 1) := by decide +kernel
theorem dX13_dayOf_52 : decode cX13_dayOf 52 = .ok (.istore 4, 2) := by decide +kernel
theorem dX13_dayOf_54 : decode cX13_dayOf 54 = .ok (.iconst 0, 1) := by decide +kernel
theorem dX13_dayOf_55 : decode cX13_dayOf 55 = .ok (.istore 5, 2) := by decide +kernel
theorem dX13_dayOf_57 : decode cX13_dayOf 57 = .ok (.iload 5, 2) := by decide +kernel
theorem dX13_dayOf_59 : decode cX13_dayOf 59 = .ok (.iload_n 3, 1) := by decide +kernel
theorem dX13_dayOf_60 : decode cX13_dayOf 60 = .ok (.if_icmp .ge 19, 3) := by decide +kernel
theorem dX13_dayOf_63 : decode cX13_dayOf 63 = .ok (.iload 4, 2) := by decide +kernel
theorem dX13_dayOf_65 : decode cX13_dayOf 65 = .ok (.aload_n 0, 1) := by decide +kernel
theorem dX13_dayOf_66 : decode cX13_dayOf 66 = .ok (.iload_n 1, 1) := by decide +kernel
theorem dX13_dayOf_67 : decode cX13_dayOf 67 = .ok (.invokevirtual 492, 3) := by decide +kernel
theorem dX13_dayOf_70 : decode cX13_dayOf 70 = .ok (.iadd, 1) := by decide +kernel
theorem dX13_dayOf_71 : decode cX13_dayOf 71 = .ok (.istore 4, 2) := by decide +kernel
theorem dX13_dayOf_73 : decode cX13_dayOf 73 = .ok (.iinc 5 1, 3) := by decide +kernel
theorem dX13_dayOf_76 : decode cX13_dayOf 76 = .ok (.goto (-19), 3) := by decide +kernel
theorem dX13_dayOf_79 : decode cX13_dayOf 79 = .ok (.aload_n 0, 1) := by decide +kernel
theorem dX13_dayOf_80 : decode cX13_dayOf 80 = .ok (.iload 4, 2) := by decide +kernel
theorem dX13_dayOf_82 : decode cX13_dayOf 82 = .ok (.invokevirtual 61, 3) := by decide +kernel
theorem dX13_dayOf_85 : decode cX13_dayOf 85 = .ok (.ireturn, 1) := by decide +kernel
theorem dX13_remembers_0 : decode cX13_remembers 0 = .ok (.aload_n 0, 1) := by decide +kernel
theorem dX13_remembers_1 : decode cX13_remembers 1 = .ok (.getfield 340, 3) := by decide +kernel
theorem dX13_remembers_4 : decode cX13_remembers 4 = .ok (.bipush 16, 2) := by decide +kernel
theorem dX13_remembers_6 : decode cX13_remembers 6 = .ok (.if_icmp .ne 43, 3) := by decide +kernel
theorem dX13_remembers_9 : decode cX13_remembers 9 = .ok (.iconst 0, 1) := by decide +kernel
theorem dX13_remembers_10 : decode cX13_remembers 10 = .ok (.istore_n 1, 1) := by decide +kernel
theorem dX13_remembers_11 : decode cX13_remembers 11 = .ok (.iload_n 1, 1) := by decide +kernel
theorem dX13_remembers_12 : decode cX13_remembers 12 = .ok (.sipush 195, 3) := by decide +kernel
theorem dX13_remembers_15 : decode cX13_remembers 15 = .ok (.if_icmp .ge 24, 3) := by decide +kernel
theorem dX13_remembers_18 : decode cX13_remembers 18 = .ok (.aload_n 0, 1) := by decide +kernel
theorem dX13_remembers_19 : decode cX13_remembers 19 = .ok (.getfield 21, 3) := by decide +kernel
theorem dX13_remembers_22 : decode cX13_remembers 22 = .ok (.iload_n 1, 1) := by decide +kernel
theorem dX13_remembers_23 : decode cX13_remembers 23 = .ok (.aload_n 0, 1) := by decide +kernel
theorem dX13_remembers_24 : decode cX13_remembers 24 = .ok (.getfield 21, 3) := by decide +kernel
theorem dX13_remembers_27 : decode cX13_remembers 27 = .ok (.iload_n 1, 1) := by decide +kernel
theorem dX13_remembers_28 : decode cX13_remembers 28 = .ok (.bipush 13, 2) := by decide +kernel
theorem dX13_remembers_30 : decode cX13_remembers 30 = .ok (.iadd, 1) := by decide +kernel
theorem dX13_remembers_31 : decode cX13_remembers 31 = .ok (.iaload, 1) := by decide +kernel
theorem dX13_remembers_32 : decode cX13_remembers 32 = .ok (.iastore, 1) := by decide +kernel
theorem dX13_remembers_33 : decode cX13_remembers 33 = .ok (.iinc 1 1, 3) := by decide +kernel
theorem dX13_remembers_36 : decode cX13_remembers 36 = .ok (.goto (-25), 3) := by decide +kernel
theorem dX13_remembers_39 : decode cX13_remembers 39 = .ok (.aload_n 0, 1) := by decide +kernel
theorem dX13_remembers_40 : decode cX13_remembers 40 = .ok (.dup, 1) := by decide +kernel
theorem dX13_remembers_41 : decode cX13_remembers 41 = .ok (.getfield 340, 3) := by decide +kernel
theorem dX13_remembers_44 : decode cX13_remembers 44 = .ok (.iconst 1, 1) := by decide +kernel
theorem dX13_remembers_45 : decode cX13_remembers 45 = .ok (.isub, 1) := by decide +kernel
theorem dX13_remembers_46 : decode cX13_remembers 46 = .ok (.putfield 340, 3) := by decide +kernel
theorem dX13_remembers_49 : decode cX13_remembers 49 = .ok (.iconst 0, 1) := by decide +kernel
theorem dX13_remembers_50 : decode cX13_remembers 50 = .ok (.istore_n 1, 1) := by decide +kernel
theorem dX13_remembers_51 : decode cX13_remembers 51 = .ok (.iload_n 1, 1) := by decide +kernel
theorem dX13_remembers_52 : decode cX13_remembers 52 = .ok (.bipush 13, 2) := by decide +kernel
theorem dX13_remembers_54 : decode cX13_remembers 54 = .ok (.if_icmp .ge 29, 3) := by decide +kernel
theorem dX13_remembers_57 : decode cX13_remembers 57 = .ok (.aload_n 0, 1) := by decide +kernel
theorem dX13_remembers_58 : decode cX13_remembers 58 = .ok (.getfield 21, 3) := by decide +kernel
theorem dX13_remembers_61 : decode cX13_remembers 61 = .ok (.bipush 13, 2) := by decide +kernel
theorem dX13_remembers_63 : decode cX13_remembers 63 = .ok (.aload_n 0, 1) := by decide +kernel
theorem dX13_remembers_64 : decode cX13_remembers 64 = .ok (.getfield 340, 3) := by decide +kernel
theorem dX13_remembers_67 : decode cX13_remembers 67 = .ok (.imul, 1) := by decide +kernel
theorem dX13_remembers_68 : decode cX13_remembers 68 = .ok (.iload_n 1, 1) := by decide +kernel
theorem dX13_remembers_69 : decode cX13_remembers 69 = .ok (.iadd, 1) := by decide +kernel
theorem dX13_remembers_70 : decode cX13_remembers 70 = .ok (.aload_n 0, 1) := by decide +kernel
theorem dX13_remembers_71 : decode cX13_remembers 71 = .ok (.getfield 17, 3) := by decide +kernel
theorem dX13_remembers_74 : decode cX13_remembers 74 = .ok (.iload_n 1, 1) := by decide +kernel
theorem dX13_remembers_75 : decode cX13_remembers 75 = .ok (.iaload, 1) := by decide +kernel
theorem dX13_remembers_76 : decode cX13_remembers 76 = .ok (.iastore, 1) := by decide +kernel
theorem dX13_remembers_77 : decode cX13_remembers 77 = .ok (.iinc 1 1, 3) := by decide +kernel
theorem dX13_remembers_80 : decode cX13_remembers 80 = .ok (.goto (-29), 3) := by decide +kernel
theorem dX13_remembers_83 : decode cX13_remembers 83 = .ok (.aload_n 0, 1) := by decide +kernel
theorem dX13_remembers_84 : decode cX13_remembers 84 = .ok (.dup, 1) := by decide +kernel
theorem dX13_remembers_85 : decode cX13_remembers 85 = .ok (.getfield 340, 3) := by decide +kernel
theorem dX13_remembers_88 : decode cX13_remembers 88 = .ok (.iconst 1, 1) := by decide +kernel
theorem dX13_remembers_89 : decode cX13_remembers 89 = .ok (.iadd, 1) := by decide +kernel
theorem dX13_remembers_90 : decode cX13_remembers 90 = .ok (.putfield 340, 3) := by decide +kernel
theorem dX13_remembers_93 : decode cX13_remembers 93 = .ok (.return_, 1) := by decide +kernel
theorem dX13_go_0 : decode cX13_go 0 = .ok (.aload_n 0, 1) := by decide +kernel
theorem dX13_go_1 : decode cX13_go 1 = .ok (.iconst 0, 1) := by decide +kernel
theorem dX13_go_2 : decode cX13_go 2 = .ok (.putfield 51, 3) := by decide +kernel
theorem dX13_go_5 : decode cX13_go 5 = .ok (.aload_n 0, 1) := by decide +kernel
theorem dX13_go_6 : decode cX13_go 6 = .ok (.iload_n 1, 1) := by decide +kernel
theorem dX13_go_7 : decode cX13_go 7 = .ok (.invokevirtual 355, 3) := by decide +kernel
theorem dX13_go_10 : decode cX13_go 10 = .ok (.ifCond .eq 11, 3) := by decide +kernel
theorem dX13_go_13 : decode cX13_go 13 = .ok (.aload_n 0, 1) := by decide +kernel
theorem dX13_go_14 : decode cX13_go 14 = .ok (.iload_n 2, 1) := by decide +kernel
theorem dX13_go_15 : decode cX13_go 15 = .ok (.invokevirtual 352, 3) := by decide +kernel
theorem dX13_go_18 : decode cX13_go 18 = .ok (.ifCond .ne 9, 3) := by decide +kernel
theorem dX13_go_21 : decode cX13_go 21 = .ok (.aload_n 0, 1) := by decide +kernel
theorem dX13_go_22 : decode cX13_go 22 = .ok (.iconst 1, 1) := by decide +kernel
theorem dX13_go_23 : decode cX13_go 23 = .ok (.invokevirtual 57, 3) := by decide +kernel
theorem dX13_go_26 : decode cX13_go 26 = .ok (.ireturn, 1) := by decide +kernel
theorem dX13_go_27 : decode cX13_go 27 = .ok (.aload_n 0, 1) := by decide +kernel
theorem dX13_go_28 : decode cX13_go 28 = .ok (.getfield 335, 3) := by decide +kernel
theorem dX13_go_31 : decode cX13_go 31 = .ok (.aload_n 0, 1) := by decide +kernel
theorem dX13_go_32 : decode cX13_go 32 = .ok (.getfield 17, 3) := by decide +kernel
theorem dX13_go_35 : decode cX13_go 35 = .ok (.iconst 0, 1) := by decide +kernel
theorem dX13_go_36 : decode cX13_go 36 = .ok (.iload_n 1, 1) := by decide +kernel
theorem dX13_go_37 : decode cX13_go 37 = .ok (.iadd, 1) := by decide +kernel
theorem dX13_go_38 : decode cX13_go 38 = .ok (.iaload, 1) := by decide +kernel
theorem dX13_go_39 : decode cX13_go 39 = .ok (.iload_n 2, 1) := by decide +kernel
theorem dX13_go_40 : decode cX13_go 40 = .ok (.invokevirtual 410, 3) := by decide +kernel
theorem dX13_go_43 : decode cX13_go 43 = .ok (.istore_n 3, 1) := by decide +kernel
theorem dX13_go_44 : decode cX13_go 44 = .ok (.iload_n 3, 1) := by decide +kernel
theorem dX13_go_45 : decode cX13_go 45 = .ok (.ifCond .eq 10, 3) := by decide +kernel
theorem dX13_go_48 : decode cX13_go 48 = .ok (.iload_n 3, 1) := by decide +kernel
theorem dX13_go_49 : decode cX13_go 49 = .ok (.ldc_w 413, 3) := by decide +kernel
theorem dX13_go_52 : decode cX13_go 52 = .ok (.if_icmp .lt 9, 3) := by decide +kernel
theorem dX13_go_55 : decode cX13_go 55 = .ok (.aload_n 0, 1) := by decide +kernel
theorem dX13_go_56 : decode cX13_go 56 = .ok (.iconst 5, 1) := by decide +kernel
theorem dX13_go_57 : decode cX13_go 57 = .ok (.invokevirtual 57, 3) := by decide +kernel
theorem dX13_go_60 : decode cX13_go 60 = .ok (.ireturn, 1) := by decide +kernel
theorem dX13_go_61 : decode cX13_go 61 = .ok (.aload_n 0, 1) := by decide +kernel
theorem dX13_go_62 : decode cX13_go 62 = .ok (.invokevirtual 495, 3) := by decide +kernel
theorem dX13_go_65 : decode cX13_go 65 = .ok (.aload_n 0, 1) := by decide +kernel
theorem dX13_go_66 : decode cX13_go 66 = .ok (.getfield 17, 3) := by decide +kernel
theorem dX13_go_69 : decode cX13_go 69 = .ok (.iconst 0, 1) := by decide +kernel
theorem dX13_go_70 : decode cX13_go 70 = .ok (.iload_n 1, 1) := by decide +kernel
theorem dX13_go_71 : decode cX13_go 71 = .ok (.iadd, 1) := by decide +kernel
theorem dX13_go_72 : decode cX13_go 72 = .ok (.iload_n 2, 1) := by decide +kernel
theorem dX13_go_73 : decode cX13_go 73 = .ok (.iastore, 1) := by decide +kernel
theorem dX13_go_74 : decode cX13_go 74 = .ok (.aload_n 0, 1) := by decide +kernel
theorem dX13_go_75 : decode cX13_go 75 = .ok (.iload_n 3, 1) := by decide +kernel
theorem dX13_go_76 : decode cX13_go 76 = .ok (.invokevirtual 61, 3) := by decide +kernel
theorem dX13_go_79 : decode cX13_go 79 = .ok (.ireturn, 1) := by decide +kernel
theorem dX13_isPassing_0 : decode cX13_isPassing 0 = .ok (.aload_n 0, 1) := by decide +kernel
theorem dX13_isPassing_1 : decode cX13_isPassing 1 = .ok (.getfield 335, 3) := by decide +kernel
theorem dX13_isPassing_4 : decode cX13_isPassing 4 = .ok (.getfield 296, 3) := by decide +kernel
theorem dX13_isPassing_7 : decode cX13_isPassing 7 = .ok (.iload_n 1, 1) := by decide +kernel
theorem dX13_isPassing_8 : decode cX13_isPassing 8 = .ok (.iaload, 1) := by decide +kernel
theorem dX13_isPassing_9 : decode cX13_isPassing 9 = .ok (.aload_n 0, 1) := by decide +kernel
theorem dX13_isPassing_10 : decode cX13_isPassing 10 = .ok (.getfield 335, 3) := by decide +kernel
theorem dX13_isPassing_13 : decode cX13_isPassing 13 = .ok (.iload_n 2, 1) := by decide +kernel
theorem dX13_isPassing_14 : decode cX13_isPassing 14 = .ok (.invokevirtual 346, 3) := by decide +kernel
theorem dX13_isPassing_17 : decode cX13_isPassing 17 = .ok (.if_icmp .gt 7, 3) := by decide +kernel
theorem dX13_isPassing_20 : decode cX13_isPassing 20 = .ok (.iconst 1, 1) := by decide +kernel
theorem dX13_isPassing_21 : decode cX13_isPassing 21 = .ok (.goto 4, 3) := by decide +kernel
theorem dX13_isPassing_24 : decode cX13_isPassing 24 = .ok (.iconst 0, 1) := by decide +kernel
theorem dX13_isPassing_25 : decode cX13_isPassing 25 = .ok (.ireturn, 1) := by decide +kernel
theorem dX13_hand_0 : decode cX13_hand 0 = .ok (.aload_n 0, 1) := by decide +kernel
theorem dX13_hand_1 : decode cX13_hand 1 = .ok (.iconst 0, 1) := by decide +kernel
theorem dX13_hand_2 : decode cX13_hand 2 = .ok (.putfield 51, 3) := by decide +kernel
theorem dX13_hand_5 : decode cX13_hand 5 = .ok (.aload_n 0, 1) := by decide +kernel
theorem dX13_hand_6 : decode cX13_hand 6 = .ok (.iload_n 1, 1) := by decide +kernel
theorem dX13_hand_7 : decode cX13_hand 7 = .ok (.invokevirtual 361, 3) := by decide +kernel
theorem dX13_hand_10 : decode cX13_hand 10 = .ok (.ifCond .eq 11, 3) := by decide +kernel
theorem dX13_hand_13 : decode cX13_hand 13 = .ok (.aload_n 0, 1) := by decide +kernel
theorem dX13_hand_14 : decode cX13_hand 14 = .ok (.iload_n 2, 1) := by decide +kernel
theorem dX13_hand_15 : decode cX13_hand 15 = .ok (.invokevirtual 352, 3) := by decide +kernel
theorem dX13_hand_18 : decode cX13_hand 18 = .ok (.ifCond .ne 9, 3) := by decide +kernel
theorem dX13_hand_21 : decode cX13_hand 21 = .ok (.aload_n 0, 1) := by decide +kernel
theorem dX13_hand_22 : decode cX13_hand 22 = .ok (.iconst 1, 1) := by decide +kernel
theorem dX13_hand_23 : decode cX13_hand 23 = .ok (.invokevirtual 498, 3) := by decide +kernel
theorem dX13_hand_26 : decode cX13_hand 26 = .ok (.ireturn, 1) := by decide +kernel
theorem dX13_hand_27 : decode cX13_hand 27 = .ok (.aload_n 0, 1) := by decide +kernel
theorem dX13_hand_28 : decode cX13_hand 28 = .ok (.getfield 17, 3) := by decide +kernel
theorem dX13_hand_31 : decode cX13_hand 31 = .ok (.bipush 6, 2) := by decide +kernel
theorem dX13_hand_33 : decode cX13_hand 33 = .ok (.iload_n 1, 1) := by decide +kernel
theorem dX13_hand_34 : decode cX13_hand 34 = .ok (.iadd, 1) := by decide +kernel
theorem dX13_hand_35 : decode cX13_hand 35 = .ok (.iaload, 1) := by decide +kernel
theorem dX13_hand_36 : decode cX13_hand 36 = .ok (.istore_n 3, 1) := by decide +kernel
theorem dX13_hand_37 : decode cX13_hand 37 = .ok (.aload_n 0, 1) := by decide +kernel
theorem dX13_hand_38 : decode cX13_hand 38 = .ok (.getfield 335, 3) := by decide +kernel
theorem dX13_hand_41 : decode cX13_hand 41 = .ok (.getfield 257, 3) := by decide +kernel
theorem dX13_hand_44 : decode cX13_hand 44 = .ok (.bipush 6, 2) := by decide +kernel
theorem dX13_hand_46 : decode cX13_hand 46 = .ok (.iload_n 3, 1) := by decide +kernel
theorem dX13_hand_47 : decode cX13_hand 47 = .ok (.imul, 1) := by decide +kernel
theorem dX13_hand_48 : decode cX13_hand 48 = .ok (.iload_n 2, 1) := by decide +kernel
theorem dX13_hand_49 : decode cX13_hand 49 = .ok (.iadd, 1) := by decide +kernel
theorem dX13_hand_50 : decode cX13_hand 50 = .ok (.iaload, 1) := by decide +kernel
theorem dX13_hand_51 : decode cX13_hand 51 = .ok (.ifCond .eq 38, 3) := by decide +kernel
theorem dX13_hand_54 : decode cX13_hand 54 = .ok (.aload_n 0, 1) := by decide +kernel
theorem dX13_hand_55 : decode cX13_hand 55 = .ok (.getfield 335, 3) := by decide +kernel
theorem dX13_hand_58 : decode cX13_hand 58 = .ok (.aload_n 0, 1) := by decide +kernel
theorem dX13_hand_59 : decode cX13_hand 59 = .ok (.getfield 17, 3) := by decide +kernel
theorem dX13_hand_62 : decode cX13_hand 62 = .ok (.bipush 11, 2) := by decide +kernel
theorem dX13_hand_64 : decode cX13_hand 64 = .ok (.iaload, 1) := by decide +kernel
theorem dX13_hand_65 : decode cX13_hand 65 = .ok (.invokevirtual 367, 3) := by decide +kernel
theorem dX13_hand_68 : decode cX13_hand 68 = .ok (.ifCond .eq 27, 3) := by decide +kernel
theorem dX13_hand_71 : decode cX13_hand 71 = .ok (.aload_n 0, 1) := by decide +kernel
theorem dX13_hand_72 : decode cX13_hand 72 = .ok (.iload_n 1, 1) := by decide +kernel
theorem dX13_hand_73 : decode cX13_hand 73 = .ok (.iload_n 3, 1) := by decide +kernel
theorem dX13_hand_74 : decode cX13_hand 74 = .ok (.invokevirtual 437, 3) := by decide +kernel
theorem dX13_hand_77 : decode cX13_hand 77 = .ok (.ifCond .eq 12, 3) := by decide +kernel
theorem dX13_hand_80 : decode cX13_hand 80 = .ok (.aload_n 0, 1) := by decide +kernel
theorem dX13_hand_81 : decode cX13_hand 81 = .ok (.iload_n 1, 1) := by decide +kernel
theorem dX13_hand_82 : decode cX13_hand 82 = .ok (.iload_n 2, 1) := by decide +kernel
theorem dX13_hand_83 : decode cX13_hand 83 = .ok (.invokevirtual 437, 3) := by decide +kernel
theorem dX13_hand_86 : decode cX13_hand 86 = .ok (.ifCond .ne 9, 3) := by decide +kernel
theorem dX13_hand_89 : decode cX13_hand 89 = .ok (.aload_n 0, 1) := by decide +kernel
theorem dX13_hand_90 : decode cX13_hand 90 = .ok (.iconst 5, 1) := by decide +kernel
theorem dX13_hand_91 : decode cX13_hand 91 = .ok (.invokevirtual 498, 3) := by decide +kernel
theorem dX13_hand_94 : decode cX13_hand 94 = .ok (.ireturn, 1) := by decide +kernel
theorem dX13_hand_95 : decode cX13_hand 95 = .ok (.aload_n 0, 1) := by decide +kernel
theorem dX13_hand_96 : decode cX13_hand 96 = .ok (.invokevirtual 495, 3) := by decide +kernel
theorem dX13_hand_99 : decode cX13_hand 99 = .ok (.aload_n 0, 1) := by decide +kernel
theorem dX13_hand_100 : decode cX13_hand 100 = .ok (.getfield 17, 3) := by decide +kernel
theorem dX13_hand_103 : decode cX13_hand 103 = .ok (.bipush 6, 2) := by decide +kernel
theorem dX13_hand_105 : decode cX13_hand 105 = .ok (.iload_n 1, 1) := by decide +kernel
theorem dX13_hand_106 : decode cX13_hand 106 = .ok (.iadd, 1) := by decide +kernel
theorem dX13_hand_107 : decode cX13_hand 107 = .ok (.iload_n 2, 1) := by decide +kernel
theorem dX13_hand_108 : decode cX13_hand 108 = .ok (.iastore, 1) := by decide +kernel
theorem dX13_hand_109 : decode cX13_hand 109 = .ok (.aload_n 0, 1) := by decide +kernel
theorem dX13_hand_110 : decode cX13_hand 110 = .ok (.invokevirtual 501, 3) := by decide +kernel
theorem dX13_hand_113 : decode cX13_hand 113 = .ok (.ireturn, 1) := by decide +kernel
theorem dX13_hours_0 : decode cX13_hours 0 = .ok (.aload_n 0, 1) := by decide +kernel
theorem dX13_hours_1 : decode cX13_hours 1 = .ok (.iconst 0, 1) := by decide +kernel
theorem dX13_hours_2 : decode cX13_hours 2 = .ok (.putfield 51, 3) := by decide +kernel
theorem dX13_hours_5 : decode cX13_hours 5 = .ok (.aload_n 0, 1) := by decide +kernel
theorem dX13_hours_6 : decode cX13_hours 6 = .ok (.getfield 335, 3) := by decide +kernel
theorem dX13_hours_9 : decode cX13_hours 9 = .ok (.ifnonnull 9, 3) := by decide +kernel
theorem dX13_hours_12 : decode cX13_hours 12 = .ok (.aload_n 0, 1) := by decide +kernel
theorem dX13_hours_13 : decode cX13_hours 13 = .ok (.iconst 1, 1) := by decide +kernel
theorem dX13_hours_14 : decode cX13_hours 14 = .ok (.invokevirtual 57, 3) := by decide +kernel
theorem dX13_hours_17 : decode cX13_hours 17 = .ok (.ireturn, 1) := by decide +kernel
theorem dX13_hours_18 : decode cX13_hours 18 = .ok (.iload_n 1, 1) := by decide +kernel
theorem dX13_hours_19 : decode cX13_hours 19 = .ok (.iconst 1, 1) := by decide +kernel
theorem dX13_hours_20 : decode cX13_hours 20 = .ok (.bipush 24, 2) := by decide +kernel
theorem dX13_hours_22 : decode cX13_hours 22 = .ok (.invokestatic 129, 3) := by decide +kernel
theorem dX13_hours_25 : decode cX13_hours 25 = .ok (.ifCond .ne 9, 3) := by decide +kernel
theorem dX13_hours_28 : decode cX13_hours 28 = .ok (.aload_n 0, 1) := by decide +kernel
theorem dX13_hours_29 : decode cX13_hours 29 = .ok (.iconst 2, 1) := by decide +kernel
theorem dX13_hours_30 : decode cX13_hours 30 = .ok (.invokevirtual 57, 3) := by decide +kernel
theorem dX13_hours_33 : decode cX13_hours 33 = .ok (.ireturn, 1) := by decide +kernel
theorem dX13_hours_34 : decode cX13_hours 34 = .ok (.aload_n 0, 1) := by decide +kernel
theorem dX13_hours_35 : decode cX13_hours 35 = .ok (.invokevirtual 495, 3) := by decide +kernel
theorem dX13_hours_38 : decode cX13_hours 38 = .ok (.aload_n 0, 1) := by decide +kernel
theorem dX13_hours_39 : decode cX13_hours 39 = .ok (.getfield 17, 3) := by decide +kernel
theorem dX13_hours_42 : decode cX13_hours 42 = .ok (.bipush 11, 2) := by decide +kernel
theorem dX13_hours_44 : decode cX13_hours 44 = .ok (.dup2, 1) := by decide +kernel
theorem dX13_hours_45 : decode cX13_hours 45 = .ok (.iaload, 1) := by decide +kernel
theorem dX13_hours_46 : decode cX13_hours 46 = .ok (.iload_n 1, 1) := by decide +kernel
theorem dX13_hours_47 : decode cX13_hours 47 = .ok (.iadd, 1) := by decide +kernel
theorem dX13_hours_48 : decode cX13_hours 48 = .ok (.iastore, 1) := by decide +kernel
theorem dX13_hours_49 : decode cX13_hours 49 = .ok (.aload_n 0, 1) := by decide +kernel
theorem dX13_hours_50 : decode cX13_hours 50 = .ok (.getfield 17, 3) := by decide +kernel
theorem dX13_hours_53 : decode cX13_hours 53 = .ok (.bipush 11, 2) := by decide +kernel
theorem dX13_hours_55 : decode cX13_hours 55 = .ok (.iaload, 1) := by decide +kernel
theorem dX13_hours_56 : decode cX13_hours 56 = .ok (.bipush 24, 2) := by decide +kernel
theorem dX13_hours_58 : decode cX13_hours 58 = .ok (.if_icmp .lt 26, 3) := by decide +kernel
theorem dX13_hours_61 : decode cX13_hours 61 = .ok (.aload_n 0, 1) := by decide +kernel
theorem dX13_hours_62 : decode cX13_hours 62 = .ok (.getfield 17, 3) := by decide +kernel
theorem dX13_hours_65 : decode cX13_hours 65 = .ok (.bipush 11, 2) := by decide +kernel
theorem dX13_hours_67 : decode cX13_hours 67 = .ok (.dup2, 1) := by decide +kernel
theorem dX13_hours_68 : decode cX13_hours 68 = .ok (.iaload, 1) := by decide +kernel
theorem dX13_hours_69 : decode cX13_hours 69 = .ok (.bipush 24, 2) := by decide +kernel
theorem dX13_hours_71 : decode cX13_hours 71 = .ok (.isub, 1) := by decide +kernel
theorem dX13_hours_72 : decode cX13_hours 72 = .ok (.iastore, 1) := by decide +kernel
theorem dX13_hours_73 : decode cX13_hours 73 = .ok (.aload_n 0, 1) := by decide +kernel
theorem dX13_hours_74 : decode cX13_hours 74 = .ok (.getfield 17, 3) := by decide +kernel
theorem dX13_hours_77 : decode cX13_hours 77 = .ok (.bipush 12, 2) := by decide +kernel
theorem dX13_hours_79 : decode cX13_hours 79 = .ok (.dup2, 1) := by decide +kernel
theorem dX13_hours_80 : decode cX13_hours 80 = .ok (.iaload, 1) := by decide +kernel
theorem dX13_hours_81 : decode cX13_hours 81 = .ok (.iconst 1, 1) := by decide +kernel
theorem dX13_hours_82 : decode cX13_hours 82 = .ok (.iadd, 1) := by decide +kernel
theorem dX13_hours_83 : decode cX13_hours 83 = .ok (.iastore, 1) := by decide +kernel
theorem dX13_hours_84 : decode cX13_hours 84 = .ok (.aload_n 0, 1) := by decide +kernel
theorem dX13_hours_85 : decode cX13_hours 85 = .ok (.aload_n 0, 1) := by decide +kernel
theorem dX13_hours_86 : decode cX13_hours 86 = .ok (.getfield 17, 3) := by decide +kernel
theorem dX13_hours_89 : decode cX13_hours 89 = .ok (.bipush 11, 2) := by decide +kernel
theorem dX13_hours_91 : decode cX13_hours 91 = .ok (.iaload, 1) := by decide +kernel
theorem dX13_hours_92 : decode cX13_hours 92 = .ok (.invokevirtual 61, 3) := by decide +kernel
theorem dX13_hours_95 : decode cX13_hours 95 = .ok (.ireturn, 1) := by decide +kernel
theorem dX13_undo_0 : decode cX13_undo 0 = .ok (.aload_n 0, 1) := by decide +kernel
theorem dX13_undo_1 : decode cX13_undo 1 = .ok (.iconst 0, 1) := by decide +kernel
theorem dX13_undo_2 : decode cX13_undo 2 = .ok (.putfield 51, 3) := by decide +kernel
theorem dX13_undo_5 : decode cX13_undo 5 = .ok (.aload_n 0, 1) := by decide +kernel
theorem dX13_undo_6 : decode cX13_undo 6 = .ok (.getfield 335, 3) := by decide +kernel
theorem dX13_undo_9 : decode cX13_undo 9 = .ok (.ifnull 10, 3) := by decide +kernel
theorem dX13_undo_12 : decode cX13_undo 12 = .ok (.aload_n 0, 1) := by decide +kernel
theorem dX13_undo_13 : decode cX13_undo 13 = .ok (.getfield 340, 3) := by decide +kernel
theorem dX13_undo_16 : decode cX13_undo 16 = .ok (.ifCond .ne 10, 3) := by decide +kernel
theorem dX13_undo_19 : decode cX13_undo 19 = .ok (.aload_n 0, 1) := by decide +kernel
theorem dX13_undo_20 : decode cX13_undo 20 = .ok (.bipush 6, 2) := by decide +kernel
theorem dX13_undo_22 : decode cX13_undo 22 = .ok (.invokevirtual 498, 3) := by decide +kernel
theorem dX13_undo_25 : decode cX13_undo 25 = .ok (.ireturn, 1) := by decide +kernel
theorem dX13_undo_26 : decode cX13_undo 26 = .ok (.aload_n 0, 1) := by decide +kernel
theorem dX13_undo_27 : decode cX13_undo 27 = .ok (.dup, 1) := by decide +kernel
theorem dX13_undo_28 : decode cX13_undo 28 = .ok (.getfield 340, 3) := by decide +kernel
theorem dX13_undo_31 : decode cX13_undo 31 = .ok (.iconst 1, 1) := by decide +kernel
theorem dX13_undo_32 : decode cX13_undo 32 = .ok (.isub, 1) := by decide +kernel
theorem dX13_undo_33 : decode cX13_undo 33 = .ok (.putfield 340, 3) := by decide +kernel
theorem dX13_undo_36 : decode cX13_undo 36 = .ok (.iconst 0, 1) := by decide +kernel
theorem dX13_undo_37 : decode cX13_undo 37 = .ok (.istore_n 1, 1) := by decide +kernel
theorem dX13_undo_38 : decode cX13_undo 38 = .ok (.iload_n 1, 1) := by decide +kernel
theorem dX13_undo_39 : decode cX13_undo 39 = .ok (.bipush 13, 2) := by decide +kernel
theorem dX13_undo_41 : decode cX13_undo 41 = .ok (.if_icmp .ge 29, 3) := by decide +kernel
theorem dX13_undo_44 : decode cX13_undo 44 = .ok (.aload_n 0, 1) := by decide +kernel
theorem dX13_undo_45 : decode cX13_undo 45 = .ok (.getfield 17, 3) := by decide +kernel
theorem dX13_undo_48 : decode cX13_undo 48 = .ok (.iload_n 1, 1) := by decide +kernel
theorem dX13_undo_49 : decode cX13_undo 49 = .ok (.aload_n 0, 1) := by decide +kernel
theorem dX13_undo_50 : decode cX13_undo 50 = .ok (.getfield 21, 3) := by decide +kernel
theorem dX13_undo_53 : decode cX13_undo 53 = .ok (.bipush 13, 2) := by decide +kernel
theorem dX13_undo_55 : decode cX13_undo 55 = .ok (.aload_n 0, 1) := by decide +kernel
theorem dX13_undo_56 : decode cX13_undo 56 = .ok (.getfield 340, 3) := by decide +kernel
theorem dX13_undo_59 : decode cX13_undo 59 = .ok (.imul, 1) := by decide +kernel
theorem dX13_undo_60 : decode cX13_undo 60 = .ok (.iload_n 1, 1) := by decide +kernel
theorem dX13_undo_61 : decode cX13_undo 61 = .ok (.iadd, 1) := by decide +kernel
theorem dX13_undo_62 : decode cX13_undo 62 = .ok (.iaload, 1) := by decide +kernel
theorem dX13_undo_63 : decode cX13_undo 63 = .ok (.iastore, 1) := by decide +kernel
theorem dX13_undo_64 : decode cX13_undo 64 = .ok (.iinc 1 1, 3) := by decide +kernel
theorem dX13_undo_67 : decode cX13_undo 67 = .ok (.goto (-29), 3) := by decide +kernel
theorem dX13_undo_70 : decode cX13_undo 70 = .ok (.aload_n 0, 1) := by decide +kernel
theorem dX13_undo_71 : decode cX13_undo 71 = .ok (.invokevirtual 501, 3) := by decide +kernel
theorem dX13_undo_74 : decode cX13_undo 74 = .ok (.ireturn, 1) := by decide +kernel
theorem dX13_image_0 : decode cX13_image 0 = .ok (.aload_n 0, 1) := by decide +kernel
theorem dX13_image_1 : decode cX13_image 1 = .ok (.iconst 0, 1) := by decide +kernel
theorem dX13_image_2 : decode cX13_image 2 = .ok (.putfield 51, 3) := by decide +kernel
theorem dX13_image_5 : decode cX13_image 5 = .ok (.aload_n 0, 1) := by decide +kernel
theorem dX13_image_6 : decode cX13_image 6 = .ok (.getfield 335, 3) := by decide +kernel
theorem dX13_image_9 : decode cX13_image 9 = .ok (.ifnonnull 9, 3) := by decide +kernel
theorem dX13_image_12 : decode cX13_image 12 = .ok (.aload_n 0, 1) := by decide +kernel
theorem dX13_image_13 : decode cX13_image 13 = .ok (.iconst 1, 1) := by decide +kernel
theorem dX13_image_14 : decode cX13_image 14 = .ok (.invokevirtual 57, 3) := by decide +kernel
theorem dX13_image_17 : decode cX13_image 17 = .ok (.ireturn, 1) := by decide +kernel
theorem dX13_image_18 : decode cX13_image 18 = .ok (.aload_n 0, 1) := by decide +kernel
theorem dX13_image_19 : decode cX13_image 19 = .ok (.getfield 343, 3) := by decide +kernel
theorem dX13_image_22 : decode cX13_image 22 = .ok (.iconst 3, 1) := by decide +kernel
theorem dX13_image_23 : decode cX13_image 23 = .ok (.if_icmp .ne 9, 3) := by decide +kernel
theorem dX13_image_26 : decode cX13_image 26 = .ok (.aload_n 0, 1) := by decide +kernel
theorem dX13_image_27 : decode cX13_image 27 = .ok (.iconst 3, 1) := by decide +kernel
theorem dX13_image_28 : decode cX13_image 28 = .ok (.invokevirtual 57, 3) := by decide +kernel
theorem dX13_image_31 : decode cX13_image 31 = .ok (.ireturn, 1) := by decide +kernel
theorem dX13_image_32 : decode cX13_image 32 = .ok (.iconst 0, 1) := by decide +kernel
theorem dX13_image_33 : decode cX13_image 33 = .ok (.istore_n 1, 1) := by decide +kernel
theorem dX13_image_34 : decode cX13_image 34 = .ok (.iload_n 1, 1) := by decide +kernel
theorem dX13_image_35 : decode cX13_image 35 = .ok (.bipush 13, 2) := by decide +kernel
theorem dX13_image_37 : decode cX13_image 37 = .ok (.if_icmp .ge 29, 3) := by decide +kernel
theorem dX13_image_40 : decode cX13_image 40 = .ok (.aload_n 0, 1) := by decide +kernel
theorem dX13_image_41 : decode cX13_image 41 = .ok (.getfield 24, 3) := by decide +kernel
theorem dX13_image_44 : decode cX13_image 44 = .ok (.bipush 13, 2) := by decide +kernel
theorem dX13_image_46 : decode cX13_image 46 = .ok (.aload_n 0, 1) := by decide +kernel
theorem dX13_image_47 : decode cX13_image 47 = .ok (.getfield 343, 3) := by decide +kernel
theorem dX13_image_50 : decode cX13_image 50 = .ok (.imul, 1) := by decide +kernel
theorem dX13_image_51 : decode cX13_image 51 = .ok (.iload_n 1, 1) := by decide +kernel
theorem dX13_image_52 : decode cX13_image 52 = .ok (.iadd, 1) := by decide +kernel
theorem dX13_image_53 : decode cX13_image 53 = .ok (.aload_n 0, 1) := by decide +kernel
theorem dX13_image_54 : decode cX13_image 54 = .ok (.getfield 17, 3) := by decide +kernel
theorem dX13_image_57 : decode cX13_image 57 = .ok (.iload_n 1, 1) := by decide +kernel
theorem dX13_image_58 : decode cX13_image 58 = .ok (.iaload, 1) := by decide +kernel
theorem dX13_image_59 : decode cX13_image 59 = .ok (.iastore, 1) := by decide +kernel
theorem dX13_image_60 : decode cX13_image 60 = .ok (.iinc 1 1, 3) := by decide +kernel
theorem dX13_image_63 : decode cX13_image 63 = .ok (.goto (-29), 3) := by decide +kernel
theorem dX13_image_66 : decode cX13_image 66 = .ok (.aload_n 0, 1) := by decide +kernel
theorem dX13_image_67 : decode cX13_image 67 = .ok (.dup, 1) := by decide +kernel
theorem dX13_image_68 : decode cX13_image 68 = .ok (.getfield 343, 3) := by decide +kernel
theorem dX13_image_71 : decode cX13_image 71 = .ok (.iconst 1, 1) := by decide +kernel
theorem dX13_image_72 : decode cX13_image 72 = .ok (.iadd, 1) := by decide +kernel
theorem dX13_image_73 : decode cX13_image 73 = .ok (.putfield 343, 3) := by decide +kernel
theorem dX13_image_76 : decode cX13_image 76 = .ok (.aload_n 0, 1) := by decide +kernel
theorem dX13_image_77 : decode cX13_image 77 = .ok (.aload_n 0, 1) := by decide +kernel
theorem dX13_image_78 : decode cX13_image 78 = .ok (.getfield 343, 3) := by decide +kernel
theorem dX13_image_81 : decode cX13_image 81 = .ok (.iconst 1, 1) := by decide +kernel
theorem dX13_image_82 : decode cX13_image 82 = .ok (.isub, 1) := by decide +kernel
theorem dX13_image_83 : decode cX13_image 83 = .ok (.invokevirtual 61, 3) := by decide +kernel
theorem dX13_image_86 : decode cX13_image 86 = .ok (.ireturn, 1) := by decide +kernel
theorem dX13_back_0 : decode cX13_back 0 = .ok (.aload_n 0, 1) := by decide +kernel
theorem dX13_back_1 : decode cX13_back 1 = .ok (.iconst 0, 1) := by decide +kernel
theorem dX13_back_2 : decode cX13_back 2 = .ok (.putfield 51, 3) := by decide +kernel
theorem dX13_back_5 : decode cX13_back 5 = .ok (.aload_n 0, 1) := by decide +kernel
theorem dX13_back_6 : decode cX13_back 6 = .ok (.getfield 335, 3) := by decide +kernel
theorem dX13_back_9 : decode cX13_back 9 = .ok (.ifnull 15, 3) := by decide +kernel
theorem dX13_back_12 : decode cX13_back 12 = .ok (.iload_n 1, 1) := by decide +kernel
theorem dX13_back_13 : decode cX13_back 13 = .ok (.ifCond .lt 11, 3) := by decide +kernel
theorem dX13_back_16 : decode cX13_back 16 = .ok (.iload_n 1, 1) := by decide +kernel
theorem dX13_back_17 : decode cX13_back 17 = .ok (.aload_n 0, 1) := by decide +kernel
theorem dX13_back_18 : decode cX13_back 18 = .ok (.getfield 343, 3) := by decide +kernel
theorem dX13_back_21 : decode cX13_back 21 = .ok (.if_icmp .lt 9, 3) := by decide +kernel
theorem dX13_back_24 : decode cX13_back 24 = .ok (.aload_n 0, 1) := by decide +kernel
theorem dX13_back_25 : decode cX13_back 25 = .ok (.iconst 1, 1) := by decide +kernel
theorem dX13_back_26 : decode cX13_back 26 = .ok (.invokevirtual 498, 3) := by decide +kernel
theorem dX13_back_29 : decode cX13_back 29 = .ok (.ireturn, 1) := by decide +kernel
theorem dX13_back_30 : decode cX13_back 30 = .ok (.iconst 0, 1) := by decide +kernel
theorem dX13_back_31 : decode cX13_back 31 = .ok (.istore_n 2, 1) := by decide +kernel
theorem dX13_back_32 : decode cX13_back 32 = .ok (.iload_n 2, 1) := by decide +kernel
theorem dX13_back_33 : decode cX13_back 33 = .ok (.bipush 13, 2) := by decide +kernel
theorem dX13_back_35 : decode cX13_back 35 = .ok (.if_icmp .ge 26, 3) := by decide +kernel
theorem dX13_back_38 : decode cX13_back 38 = .ok (.aload_n 0, 1) := by decide +kernel
theorem dX13_back_39 : decode cX13_back 39 = .ok (.getfield 17, 3) := by decide +kernel
theorem dX13_back_42 : decode cX13_back 42 = .ok (.iload_n 2, 1) := by decide +kernel
theorem dX13_back_43 : decode cX13_back 43 = .ok (.aload_n 0, 1) := by decide +kernel
theorem dX13_back_44 : decode cX13_back 44 = .ok (.getfield 24, 3) := by decide +kernel
theorem dX13_back_47 : decode cX13_back 47 = .ok (.bipush 13, 2) := by decide +kernel
theorem dX13_back_49 : decode cX13_back 49 = .ok (.iload_n 1, 1) := by decide +kernel
theorem dX13_back_50 : decode cX13_back 50 = .ok (.imul, 1) := by decide +kernel
theorem dX13_back_51 : decode cX13_back 51 = .ok (.iload_n 2, 1) := by decide +kernel
theorem dX13_back_52 : decode cX13_back 52 = .ok (.iadd, 1) := by decide +kernel
theorem dX13_back_53 : decode cX13_back 53 = .ok (.iaload, 1) := by decide +kernel
theorem dX13_back_54 : decode cX13_back 54 = .ok (.iastore, 1) := by decide +kernel
theorem dX13_back_55 : decode cX13_back 55 = .ok (.iinc 2 1, 3) := by decide +kernel
theorem dX13_back_58 : decode cX13_back 58 = .ok (.goto (-26), 3) := by decide +kernel
theorem dX13_back_61 : decode cX13_back 61 = .ok (.aload_n 0, 1) := by decide +kernel
theorem dX13_back_62 : decode cX13_back 62 = .ok (.iconst 0, 1) := by decide +kernel
theorem dX13_back_63 : decode cX13_back 63 = .ok (.putfield 340, 3) := by decide +kernel
theorem dX13_back_66 : decode cX13_back 66 = .ok (.aload_n 0, 1) := by decide +kernel
theorem dX13_back_67 : decode cX13_back 67 = .ok (.invokevirtual 501, 3) := by decide +kernel
theorem dX13_back_70 : decode cX13_back 70 = .ok (.ireturn, 1) := by decide +kernel
theorem dX13_led_0 : decode cX13_led 0 = .ok (.aload_n 0, 1) := by decide +kernel
theorem dX13_led_1 : decode cX13_led 1 = .ok (.iconst 0, 1) := by decide +kernel
theorem dX13_led_2 : decode cX13_led 2 = .ok (.putfield 51, 3) := by decide +kernel
theorem dX13_led_5 : decode cX13_led 5 = .ok (.iconst 0, 1) := by decide +kernel
theorem dX13_led_6 : decode cX13_led 6 = .ok (.istore_n 2, 1) := by decide +kernel
theorem dX13_led_7 : decode cX13_led 7 = .ok (.iconst 0, 1) := by decide +kernel
theorem dX13_led_8 : decode cX13_led 8 = .ok (.istore_n 3, 1) := by decide +kernel
theorem dX13_led_9 : decode cX13_led 9 = .ok (.aload_n 0, 1) := by decide +kernel
theorem dX13_led_10 : decode cX13_led 10 = .ok (.getfield 335, 3) := by decide +kernel
theorem dX13_led_13 : decode cX13_led 13 = .ok (.ifnull 41, 3) := by decide +kernel
theorem dX13_led_16 : decode cX13_led 16 = .ok (.iload_n 3, 1) := by decide +kernel
theorem dX13_led_17 : decode cX13_led 17 = .ok (.aload_n 0, 1) := by decide +kernel
theorem dX13_led_18 : decode cX13_led 18 = .ok (.getfield 335, 3) := by decide +kernel
theorem dX13_led_21 : decode cX13_led 21 = .ok (.getfield 288, 3) := by decide +kernel
theorem dX13_led_24 : decode cX13_led 24 = .ok (.if_icmp .ge 30, 3) := by decide +kernel
theorem dX13_led_27 : decode cX13_led 27 = .ok (.aload_n 0, 1) := by decide +kernel
theorem dX13_led_28 : decode cX13_led 28 = .ok (.iload_n 3, 1) := by decide +kernel
theorem dX13_led_29 : decode cX13_led 29 = .ok (.invokevirtual 432, 3) := by decide +kernel
theorem dX13_led_32 : decode cX13_led 32 = .ok (.ifCond .eq 6, 3) := by decide +kernel
theorem dX13_led_35 : decode cX13_led 35 = .ok (.goto 13, 3) := by decide +kernel
theorem dX13_led_38 : decode cX13_led 38 = .ok (.iload_n 2, 1) := by decide +kernel
theorem dX13_led_39 : decode cX13_led 39 = .ok (.iload_n 1, 1) := by decide +kernel
theorem dX13_led_40 : decode cX13_led 40 = .ok (.if_icmp .ne 5, 3) := by decide +kernel
theorem dX13_led_43 : decode cX13_led 43 = .ok (.iload_n 3, 1) := by decide +kernel
theorem dX13_led_44 : decode cX13_led 44 = .ok (.ireturn, 1) := by decide +kernel
theorem dX13_led_45 : decode cX13_led 45 = .ok (.iinc 2 1, 3) := by decide +kernel
theorem dX13_led_48 : decode cX13_led 48 = .ok (.iinc 3 1, 3) := by decide +kernel
theorem dX13_led_51 : decode cX13_led 51 = .ok (.goto (-42), 3) := by decide +kernel
theorem dX13_led_54 : decode cX13_led 54 = .ok (.aload_n 0, 1) := by decide +kernel
theorem dX13_led_55 : decode cX13_led 55 = .ok (.iconst 1, 1) := by decide +kernel
theorem dX13_led_56 : decode cX13_led 56 = .ok (.putfield 51, 3) := by decide +kernel
theorem dX13_led_59 : decode cX13_led 59 = .ok (.iconst 0, 1) := by decide +kernel
theorem dX13_led_60 : decode cX13_led 60 = .ok (.ireturn, 1) := by decide +kernel
theorem dX13_size_0 : decode cX13_size 0 = .ok (.aload_n 0, 1) := by decide +kernel
theorem dX13_size_1 : decode cX13_size 1 = .ok (.iconst 0, 1) := by decide +kernel
theorem dX13_size_2 : decode cX13_size 2 = .ok (.putfield 51, 3) := by decide +kernel
theorem dX13_size_5 : decode cX13_size 5 = .ok (.iload_n 1, 1) := by decide +kernel
theorem dX13_size_6 : decode cX13_size 6 = .ok (.bipush 13, 2) := by decide +kernel
theorem dX13_size_8 : decode cX13_size 8 = .ok (.if_icmp .ne 8, 3) := by decide +kernel
theorem dX13_size_11 : decode cX13_size 11 = .ok (.aload_n 0, 1) := by decide +kernel
theorem dX13_size_12 : decode cX13_size 12 = .ok (.getfield 328, 3) := by decide +kernel
theorem dX13_size_15 : decode cX13_size 15 = .ok (.ireturn, 1) := by decide +kernel
theorem dX13_size_16 : decode cX13_size 16 = .ok (.iload_n 1, 1) := by decide +kernel
theorem dX13_size_17 : decode cX13_size 17 = .ok (.iconst 0, 1) := by decide +kernel
theorem dX13_size_18 : decode cX13_size 18 = .ok (.bipush 12, 2) := by decide +kernel
theorem dX13_size_20 : decode cX13_size 20 = .ok (.invokestatic 129, 3) := by decide +kernel
theorem dX13_size_23 : decode cX13_size 23 = .ok (.ifCond .ne 5, 3) := by decide +kernel
theorem dX13_size_26 : decode cX13_size 26 = .ok (.iconst (-1), 1) := by decide +kernel
theorem dX13_size_27 : decode cX13_size 27 = .ok (.ireturn, 1) := by decide +kernel
theorem dX13_size_28 : decode cX13_size 28 = .ok (.aload_n 0, 1) := by decide +kernel
theorem dX13_size_29 : decode cX13_size 29 = .ok (.getfield 335, 3) := by decide +kernel
theorem dX13_size_32 : decode cX13_size 32 = .ok (.ifnonnull 5, 3) := by decide +kernel
theorem dX13_size_35 : decode cX13_size 35 = .ok (.iconst 0, 1) := by decide +kernel
theorem dX13_size_36 : decode cX13_size 36 = .ok (.ireturn, 1) := by decide +kernel
theorem dX13_size_37 : decode cX13_size 37 = .ok (.iload_n 1, 1) := by decide +kernel
theorem dX13_size_38 : decode cX13_size 38 = .ok (.tableswitch 155 0 11 #[62, 70, 78, 86, 94, 102, 110, 118, 126, 134, 142, 150], 62) := by decide +kernel
theorem dX13_size_100 : decode cX13_size 100 = .ok (.aload_n 0, 1) := by decide +kernel
theorem dX13_size_101 : decode cX13_size 101 = .ok (.getfield 335, 3) := by decide +kernel
theorem dX13_size_104 : decode cX13_size 104 = .ok (.getfield 232, 3) := by decide +kernel
theorem dX13_size_107 : decode cX13_size 107 = .ok (.ireturn, 1) := by decide +kernel
theorem dX13_size_108 : decode cX13_size 108 = .ok (.aload_n 0, 1) := by decide +kernel
theorem dX13_size_109 : decode cX13_size 109 = .ok (.getfield 335, 3) := by decide +kernel
theorem dX13_size_112 : decode cX13_size 112 = .ok (.getfield 234, 3) := by decide +kernel
theorem dX13_size_115 : decode cX13_size 115 = .ok (.ireturn, 1) := by decide +kernel
theorem dX13_size_116 : decode cX13_size 116 = .ok (.aload_n 0, 1) := by decide +kernel
theorem dX13_size_117 : decode cX13_size 117 = .ok (.getfield 335, 3) := by decide +kernel
theorem dX13_size_120 : decode cX13_size 120 = .ok (.getfield 161, 3) := by decide +kernel
theorem dX13_size_123 : decode cX13_size 123 = .ok (.ireturn, 1) := by decide +kernel
theorem dX13_size_124 : decode cX13_size 124 = .ok (.aload_n 0, 1) := by decide +kernel
theorem dX13_size_125 : decode cX13_size 125 = .ok (.getfield 335, 3) := by decide +kernel
theorem dX13_size_128 : decode cX13_size 128 = .ok (.getfield 196, 3) := by decide +kernel
theorem dX13_size_131 : decode cX13_size 131 = .ok (.ireturn, 1) := by decide +kernel
theorem dX13_size_132 : decode cX13_size 132 = .ok (.aload_n 0, 1) := by decide +kernel
theorem dX13_size_133 : decode cX13_size 133 = .ok (.getfield 335, 3) := by decide +kernel
theorem dX13_size_136 : decode cX13_size 136 = .ok (.getfield 251, 3) := by decide +kernel
theorem dX13_size_139 : decode cX13_size 139 = .ok (.ireturn, 1) := by decide +kernel
theorem dX13_size_140 : decode cX13_size 140 = .ok (.aload_n 0, 1) := by decide +kernel
theorem dX13_size_141 : decode cX13_size 141 = .ok (.getfield 335, 3) := by decide +kernel
theorem dX13_size_144 : decode cX13_size 144 = .ok (.getfield 199, 3) := by decide +kernel
theorem dX13_size_147 : decode cX13_size 147 = .ok (.ireturn, 1) := by decide +kernel
theorem dX13_size_148 : decode cX13_size 148 = .ok (.aload_n 0, 1) := by decide +kernel
theorem dX13_size_149 : decode cX13_size 149 = .ok (.getfield 335, 3) := by decide +kernel
theorem dX13_size_152 : decode cX13_size 152 = .ok (.getfield 288, 3) := by decide +kernel
theorem dX13_size_155 : decode cX13_size 155 = .ok (.ireturn, 1) := by decide +kernel
theorem dX13_size_156 : decode cX13_size 156 = .ok (.aload_n 0, 1) := by decide +kernel
theorem dX13_size_157 : decode cX13_size 157 = .ok (.getfield 335, 3) := by decide +kernel
theorem dX13_size_160 : decode cX13_size 160 = .ok (.getfield 302, 3) := by decide +kernel
theorem dX13_size_163 : decode cX13_size 163 = .ok (.ireturn, 1) := by decide +kernel
theorem dX13_size_164 : decode cX13_size 164 = .ok (.aload_n 0, 1) := by decide +kernel
theorem dX13_size_165 : decode cX13_size 165 = .ok (.getfield 335, 3) := by decide +kernel
theorem dX13_size_168 : decode cX13_size 168 = .ok (.getfield 316, 3) := by decide +kernel
theorem dX13_size_171 : decode cX13_size 171 = .ok (.ireturn, 1) := by decide +kernel
theorem dX13_size_172 : decode cX13_size 172 = .ok (.aload_n 0, 1) := by decide +kernel
theorem dX13_size_173 : decode cX13_size 173 = .ok (.getfield 17, 3) := by decide +kernel
theorem dX13_size_176 : decode cX13_size 176 = .ok (.bipush 11, 2) := by decide +kernel
theorem dX13_size_178 : decode cX13_size 178 = .ok (.iaload, 1) := by decide +kernel
theorem dX13_size_179 : decode cX13_size 179 = .ok (.ireturn, 1) := by decide +kernel
theorem dX13_size_180 : decode cX13_size 180 = .ok (.aload_n 0, 1) := by decide +kernel
theorem dX13_size_181 : decode cX13_size 181 = .ok (.getfield 17, 3) := by decide +kernel
theorem dX13_size_184 : decode cX13_size 184 = .ok (.bipush 12, 2) := by decide +kernel
theorem dX13_size_186 : decode cX13_size 186 = .ok (.iaload, 1) := by decide +kernel
theorem dX13_size_187 : decode cX13_size 187 = .ok (.ireturn, 1) := by decide +kernel
theorem dX13_size_188 : decode cX13_size 188 = .ok (.aload_n 0, 1) := by decide +kernel
theorem dX13_size_189 : decode cX13_size 189 = .ok (.getfield 340, 3) := by decide +kernel
theorem dX13_size_192 : decode cX13_size 192 = .ok (.ireturn, 1) := by decide +kernel
theorem dX13_size_193 : decode cX13_size 193 = .ok (.aload_n 0, 1) := by decide +kernel
theorem dX13_size_194 : decode cX13_size 194 = .ok (.getfield 343, 3) := by decide +kernel
theorem dX13_size_197 : decode cX13_size 197 = .ok (.ireturn, 1) := by decide +kernel
theorem dX13_trouble_0 : decode cX13_trouble 0 = .ok (.aload_n 0, 1) := by decide +kernel
theorem dX13_trouble_1 : decode cX13_trouble 1 = .ok (.iconst 0, 1) := by decide +kernel
theorem dX13_trouble_2 : decode cX13_trouble 2 = .ok (.putfield 51, 3) := by decide +kernel
theorem dX13_trouble_5 : decode cX13_trouble 5 = .ok (.aload_n 0, 1) := by decide +kernel
theorem dX13_trouble_6 : decode cX13_trouble 6 = .ok (.getfield 54, 3) := by decide +kernel
theorem dX13_trouble_9 : decode cX13_trouble 9 = .ok (.ireturn, 1) := by decide +kernel
