theorem dX13_wayAt_0 : decode cX13_wayAt 0 = .ok (.aload_n 0, 1) := by decide +kernel
theorem dX13_wayAt_1 : decode cX13_wayAt 1 = .ok (.iconst 0, 1) := by decide +kernel
theorem dX13_wayAt_2 : decode cX13_wayAt 2 = .ok (.putfield 51, 3) := by decide +kernel
theorem dX13_wayAt_5 : decode cX13_wayAt 5 = .ok (.aload_n 0, 1) := by decide +kernel
theorem dX13_wayAt_6 : decode cX13_wayAt 6 = .ok (.iload_n 1, 1) := by decide +kernel
theorem dX13_wayAt_7 : decode cX13_wayAt 7 = .ok (.invokevirtual 352, 3) := by decide +kernel
theorem dX13_wayAt_10 : decode cX13_wayAt 10 = .ok (.ifCond .eq 30, 3) := by decide +kernel
theorem dX13_wayAt_13 : decode cX13_wayAt 13 = .ok (.aload_n 0, 1) := by decide +kernel
theorem dX13_wayAt_14 : decode cX13_wayAt 14 = .ok (.iload_n 2, 1) := by decide +kernel
theorem dX13_wayAt_15 : decode cX13_wayAt 15 = .ok (.invokevirtual 352, 3) := by decide +kernel
theorem dX13_wayAt_18 : decode cX13_wayAt 18 = .ok (.ifCond .eq 22, 3) := by decide +kernel
theorem dX13_wayAt_21 : decode cX13_wayAt 21 = .ok (.iload_n 3, 1) := by decide +kernel
theorem dX13_wayAt_22 : decode cX13_wayAt 22 = .ok (.ifCond .lt 18, 3) := by decide +kernel
theorem dX13_wayAt_25 : decode cX13_wayAt 25 = .ok (.aload_n 0, 1) := by decide +kernel
theorem dX13_wayAt_26 : decode cX13_wayAt 26 = .ok (.getfield 335, 3) := by decide +kernel
theorem dX13_wayAt_29 : decode cX13_wayAt 29 = .ok (.iload_n 1, 1) := by decide +kernel
theorem dX13_wayAt_30 : decode cX13_wayAt 30 = .ok (.iload_n 2, 1) := by decide +kernel
theorem dX13_wayAt_31 : decode cX13_wayAt 31 = .ok (.invokevirtual 410, 3) := by decide +kernel
theorem dX13_wayAt_34 : decode cX13_wayAt 34 = .ok (.ldc_w 413, 3) := by decide +kernel
theorem dX13_wayAt_37 : decode cX13_wayAt 37 = .ok (.if_icmp .lt 9, 3) := by decide +kernel
theorem dX13_wayAt_40 : decode cX13_wayAt 40 = .ok (.aload_n 0, 1) := by decide +kernel
theorem dX13_wayAt_41 : decode cX13_wayAt 41 = .ok (.iconst 1, 1) := by decide +kernel
theorem dX13_wayAt_42 : decode cX13_wayAt 42 = .ok (.invokevirtual 57, 3) := by decide +kernel
theorem dX13_wayAt_45 : decode cX13_wayAt 45 = .ok (.ireturn, 1) := by decide +kernel
theorem dX13_wayAt_46 : decode cX13_wayAt 46 = .ok (.iload_n 1, 1) := by decide +kernel
theorem dX13_wayAt_47 : decode cX13_wayAt 47 = .ok (.istore 4, 2) := by decide +kernel
theorem dX13_wayAt_49 : decode cX13_wayAt 49 = .ok (.iconst 0, 1) := by decide +kernel
theorem dX13_wayAt_50 : decode cX13_wayAt 50 = .ok (.istore 5, 2) := by decide +kernel
theorem dX13_wayAt_52 : decode cX13_wayAt 52 = .ok (.iload 5, 2) := by decide +kernel
theorem dX13_wayAt_54 : decode cX13_wayAt 54 = .ok (.iload_n 3, 1) := by decide +kernel
theorem dX13_wayAt_55 : decode cX13_wayAt 55 = .ok (.if_icmp .ge 93, 3) := by decide +kernel
theorem dX13_wayAt_58 : decode cX13_wayAt 58 = .ok (.iload 4, 2) := by decide +kernel
theorem dX13_wayAt_60 : decode cX13_wayAt 60 = .ok (.iload_n 2, 1) := by decide +kernel
theorem dX13_wayAt_61 : decode cX13_wayAt 61 = .ok (.if_icmp .ne 9, 3) := by decide +kernel
theorem dX13_wayAt_64 : decode cX13_wayAt 64 = .ok (.aload_n 0, 1) := by decide +kernel
theorem dX13_wayAt_65 : decode cX13_wayAt 65 = .ok (.iconst 1, 1) := by decide +kernel
theorem dX13_wayAt_66 : decode cX13_wayAt 66 = .ok (.invokevirtual 57, 3) := by decide +kernel
theorem dX13_wayAt_69 : decode cX13_wayAt 69 = .ok (.ireturn, 1) := by decide +kernel
theorem dX13_wayAt_70 : decode cX13_wayAt 70 = .ok (.iconst 0, 1) := by decide +kernel
theorem dX13_wayAt_71 : decode cX13_wayAt 71 = .ok (.istore 6, 2) := by decide +kernel
theorem dX13_wayAt_73 : decode cX13_wayAt 73 = .ok (.aload_n 0, 1) := by decide +kernel
theorem dX13_wayAt_74 : decode cX13_wayAt 74 = .ok (.getfield 335, 3) := by decide +kernel
theorem dX13_wayAt_77 : decode cX13_wayAt 77 = .ok (.getfield 257, 3) := by decide +kernel
theorem dX13_wayAt_80 : decode cX13_wayAt 80 = .ok (.bipush 6, 2) := by decide +kernel
theorem dX13_wayAt_82 : decode cX13_wayAt 82 = .ok (.iload 4, 2) := by decide +kernel
theorem dX13_wayAt_84 : decode cX13_wayAt 84 = .ok (.imul, 1) := by decide +kernel
theorem dX13_wayAt_85 : decode cX13_wayAt 85 = .ok (.iload 6, 2) := by decide +kernel
theorem dX13_wayAt_87 : decode cX13_wayAt 87 = .ok (.iadd, 1) := by decide +kernel
theorem dX13_wayAt_88 : decode cX13_wayAt 88 = .ok (.iaload, 1) := by decide +kernel
theorem dX13_wayAt_89 : decode cX13_wayAt 89 = .ok (.ifCond .eq 43, 3) := by decide +kernel
theorem dX13_wayAt_92 : decode cX13_wayAt 92 = .ok (.aload_n 0, 1) := by decide +kernel
theorem dX13_wayAt_93 : decode cX13_wayAt 93 = .ok (.getfield 335, 3) := by decide +kernel
theorem dX13_wayAt_96 : decode cX13_wayAt 96 = .ok (.getfield 257, 3) := by decide +kernel
theorem dX13_wayAt_99 : decode cX13_wayAt 99 = .ok (.bipush 6, 2) := by decide +kernel
theorem dX13_wayAt_101 : decode cX13_wayAt 101 = .ok (.iload 4, 2) := by decide +kernel
theorem dX13_wayAt_103 : decode cX13_wayAt 103 = .ok (.imul, 1) := by decide +kernel
theorem dX13_wayAt_104 : decode cX13_wayAt 104 = .ok (.iload 6, 2) := by decide +kernel
theorem dX13_wayAt_106 : decode cX13_wayAt 106 = .ok (.iadd, 1) := by decide +kernel
theorem dX13_wayAt_107 : decode cX13_wayAt 107 = .ok (.iaload, 1) := by decide +kernel
theorem dX13_wayAt_108 : decode cX13_wayAt 108 = .ok (.aload_n 0, 1) := by decide +kernel
theorem dX13_wayAt_109 : decode cX13_wayAt 109 = .ok (.getfield 335, 3) := by decide +kernel
theorem dX13_wayAt_112 : decode cX13_wayAt 112 = .ok (.iload 6, 2) := by decide +kernel
theorem dX13_wayAt_114 : decode cX13_wayAt 114 = .ok (.iload_n 2, 1) := by decide +kernel
theorem dX13_wayAt_115 : decode cX13_wayAt 115 = .ok (.invokevirtual 410, 3) := by decide +kernel
theorem dX13_wayAt_118 : decode cX13_wayAt 118 = .ok (.iadd, 1) := by decide +kernel
theorem dX13_wayAt_119 : decode cX13_wayAt 119 = .ok (.aload_n 0, 1) := by decide +kernel
theorem dX13_wayAt_120 : decode cX13_wayAt 120 = .ok (.getfield 335, 3) := by decide +kernel
theorem dX13_wayAt_123 : decode cX13_wayAt 123 = .ok (.iload 4, 2) := by decide +kernel
theorem dX13_wayAt_125 : decode cX13_wayAt 125 = .ok (.iload_n 2, 1) := by decide +kernel
theorem dX13_wayAt_126 : decode cX13_wayAt 126 = .ok (.invokevirtual 410, 3) := by decide +kernel
theorem dX13_wayAt_129 : decode cX13_wayAt 129 = .ok (.if_icmp .eq 9, 3) := by decide +kernel
theorem dX13_wayAt_132 : decode cX13_wayAt 132 = .ok (.iinc 6 1, 3) := by decide +kernel
theorem dX13_wayAt_135 : decode cX13_wayAt 135 = .ok (.goto (-62), 3) := by decide +kernel
theorem dX13_wayAt_138 : decode cX13_wayAt 138 = .ok (.iload 6, 2) := by decide +kernel
theorem dX13_wayAt_140 : decode cX13_wayAt 140 = .ok (.istore 4, 2) := by decide +kernel
theorem dX13_wayAt_142 : decode cX13_wayAt 142 = .ok (.iinc 5 1, 3) := by decide +kernel
theorem dX13_wayAt_145 : decode cX13_wayAt 145 = .ok (.goto (-93), 3) := by decide +kernel
theorem dX13_wayAt_148 : decode cX13_wayAt 148 = .ok (.aload_n 0, 1) := by decide +kernel
theorem dX13_wayAt_149 : decode cX13_wayAt 149 = .ok (.iload 4, 2) := by decide +kernel
theorem dX13_wayAt_151 : decode cX13_wayAt 151 = .ok (.invokevirtual 61, 3) := by decide +kernel
theorem dX13_wayAt_154 : decode cX13_wayAt 154 = .ok (.ireturn, 1) := by decide +kernel
theorem dX13_canCarry_0 : decode cX13_canCarry 0 = .ok (.aload_n 0, 1) := by decide +kernel
theorem dX13_canCarry_1 : decode cX13_canCarry 1 = .ok (.getfield 335, 3) := by decide +kernel
theorem dX13_canCarry_4 : decode cX13_canCarry 4 = .ok (.iload_n 1, 1) := by decide +kernel
theorem dX13_canCarry_5 : decode cX13_canCarry 5 = .ok (.invokevirtual 358, 3) := by decide +kernel
theorem dX13_canCarry_8 : decode cX13_canCarry 8 = .ok (.aload_n 0, 1) := by decide +kernel
theorem dX13_canCarry_9 : decode cX13_canCarry 9 = .ok (.getfield 335, 3) := by decide +kernel
theorem dX13_canCarry_12 : decode cX13_canCarry 12 = .ok (.getfield 296, 3) := by decide +kernel
theorem dX13_canCarry_15 : decode cX13_canCarry 15 = .ok (.iload_n 2, 1) := by decide +kernel
theorem dX13_canCarry_16 : decode cX13_canCarry 16 = .ok (.iaload, 1) := by decide +kernel
theorem dX13_canCarry_17 : decode cX13_canCarry 17 = .ok (.if_icmp .lt 69, 3) := by decide +kernel
theorem dX13_canCarry_20 : decode cX13_canCarry 20 = .ok (.aload_n 0, 1) := by decide +kernel
theorem dX13_canCarry_21 : decode cX13_canCarry 21 = .ok (.getfield 335, 3) := by decide +kernel
theorem dX13_canCarry_24 : decode cX13_canCarry 24 = .ok (.aload_n 0, 1) := by decide +kernel
theorem dX13_canCarry_25 : decode cX13_canCarry 25 = .ok (.getfield 335, 3) := by decide +kernel
theorem dX13_canCarry_28 : decode cX13_canCarry 28 = .ok (.getfield 281, 3) := by decide +kernel
theorem dX13_canCarry_31 : decode cX13_canCarry 31 = .ok (.iload_n 1, 1) := by decide +kernel
theorem dX13_canCarry_32 : decode cX13_canCarry 32 = .ok (.iaload, 1) := by decide +kernel
theorem dX13_canCarry_33 : decode cX13_canCarry 33 = .ok (.aload_n 0, 1) := by decide +kernel
theorem dX13_canCarry_34 : decode cX13_canCarry 34 = .ok (.getfield 17, 3) := by decide +kernel
theorem dX13_canCarry_37 : decode cX13_canCarry 37 = .ok (.bipush 6, 2) := by decide +kernel
theorem dX13_canCarry_39 : decode cX13_canCarry 39 = .ok (.iload_n 2, 1) := by decide +kernel
theorem dX13_canCarry_40 : decode cX13_canCarry 40 = .ok (.iadd, 1) := by decide +kernel
theorem dX13_canCarry_41 : decode cX13_canCarry 41 = .ok (.iaload, 1) := by decide +kernel
theorem dX13_canCarry_42 : decode cX13_canCarry 42 = .ok (.invokevirtual 410, 3) := by decide +kernel
theorem dX13_canCarry_45 : decode cX13_canCarry 45 = .ok (.ldc_w 413, 3) := by decide +kernel
theorem dX13_canCarry_48 : decode cX13_canCarry 48 = .ok (.if_icmp .ge 38, 3) := by decide +kernel
theorem dX13_canCarry_51 : decode cX13_canCarry 51 = .ok (.aload_n 0, 1) := by decide +kernel
theorem dX13_canCarry_52 : decode cX13_canCarry 52 = .ok (.getfield 335, 3) := by decide +kernel
theorem dX13_canCarry_55 : decode cX13_canCarry 55 = .ok (.aload_n 0, 1) := by decide +kernel
theorem dX13_canCarry_56 : decode cX13_canCarry 56 = .ok (.getfield 17, 3) := by decide +kernel
theorem dX13_canCarry_59 : decode cX13_canCarry 59 = .ok (.bipush 6, 2) := by decide +kernel
theorem dX13_canCarry_61 : decode cX13_canCarry 61 = .ok (.iload_n 2, 1) := by decide +kernel
theorem dX13_canCarry_62 : decode cX13_canCarry 62 = .ok (.iadd, 1) := by decide +kernel
theorem dX13_canCarry_63 : decode cX13_canCarry 63 = .ok (.iaload, 1) := by decide +kernel
theorem dX13_canCarry_64 : decode cX13_canCarry 64 = .ok (.aload_n 0, 1) := by decide +kernel
theorem dX13_canCarry_65 : decode cX13_canCarry 65 = .ok (.getfield 335, 3) := by decide +kernel
theorem dX13_canCarry_68 : decode cX13_canCarry 68 = .ok (.getfield 300, 3) := by decide +kernel
theorem dX13_canCarry_71 : decode cX13_canCarry 71 = .ok (.iload_n 2, 1) := by decide +kernel
theorem dX13_canCarry_72 : decode cX13_canCarry 72 = .ok (.iaload, 1) := by decide +kernel
theorem dX13_canCarry_73 : decode cX13_canCarry 73 = .ok (.invokevirtual 410, 3) := by decide +kernel
theorem dX13_canCarry_76 : decode cX13_canCarry 76 = .ok (.ldc_w 413, 3) := by decide +kernel
theorem dX13_canCarry_79 : decode cX13_canCarry 79 = .ok (.if_icmp .ge 7, 3) := by decide +kernel
theorem dX13_canCarry_82 : decode cX13_canCarry 82 = .ok (.iconst 1, 1) := by decide +kernel
theorem dX13_canCarry_83 : decode cX13_canCarry 83 = .ok (.goto 4, 3) := by decide +kernel
theorem dX13_canCarry_86 : decode cX13_canCarry 86 = .ok (.iconst 0, 1) := by decide +kernel
theorem dX13_canCarry_87 : decode cX13_canCarry 87 = .ok (.ireturn, 1) := by decide +kernel
theorem dX13_less_0 : decode cX13_less 0 = .ok (.iload_n 0, 1) := by decide +kernel
theorem dX13_less_1 : decode cX13_less 1 = .ok (.iload_n 1, 1) := by decide +kernel
theorem dX13_less_2 : decode cX13_less 2 = .ok (.if_icmp .ge 7, 3) := by decide +kernel
theorem dX13_less_5 : decode cX13_less 5 = .ok (.iload_n 0, 1) := by decide +kernel
theorem dX13_less_6 : decode cX13_less 6 = .ok (.goto 4, 3) := by decide +kernel
theorem dX13_less_9 : decode cX13_less 9 = .ok (.iload_n 1, 1) := by decide +kernel
theorem dX13_less_10 : decode cX13_less 10 = .ok (.ireturn, 1) := by decide +kernel
theorem dX13_laysTakes_0 : decode cX13_laysTakes 0 = .ok (.iconst 0, 1) := by decide +kernel
theorem dX13_laysTakes_1 : decode cX13_laysTakes 1 = .ok (.istore_n 1, 1) := by decide +kernel
theorem dX13_laysTakes_2 : decode cX13_laysTakes 2 = .ok (.iload_n 1, 1) := by decide +kernel
theorem dX13_laysTakes_3 : decode cX13_laysTakes 3 = .ok (.aload_n 0, 1) := by decide +kernel
theorem dX13_laysTakes_4 : decode cX13_laysTakes 4 = .ok (.getfield 335, 3) := by decide +kernel
theorem dX13_laysTakes_7 : decode cX13_laysTakes 7 = .ok (.getfield 199, 3) := by decide +kernel
theorem dX13_laysTakes_10 : decode cX13_laysTakes 10 = .ok (.if_icmp .ge 48, 3) := by decide +kernel
theorem dX13_laysTakes_13 : decode cX13_laysTakes 13 = .ok (.iconst 0, 1) := by decide +kernel
theorem dX13_laysTakes_14 : decode cX13_laysTakes 14 = .ok (.istore_n 2, 1) := by decide +kernel
theorem dX13_laysTakes_15 : decode cX13_laysTakes 15 = .ok (.iload_n 2, 1) := by decide +kernel
theorem dX13_laysTakes_16 : decode cX13_laysTakes 16 = .ok (.bipush 32, 2) := by decide +kernel
theorem dX13_laysTakes_18 : decode cX13_laysTakes 18 = .ok (.if_icmp .ge 34, 3) := by decide +kernel
theorem dX13_laysTakes_21 : decode cX13_laysTakes 21 = .ok (.aload_n 0, 1) := by decide +kernel
theorem dX13_laysTakes_22 : decode cX13_laysTakes 22 = .ok (.getfield 30, 3) := by decide +kernel
theorem dX13_laysTakes_25 : decode cX13_laysTakes 25 = .ok (.bipush 32, 2) := by decide +kernel
theorem dX13_laysTakes_27 : decode cX13_laysTakes 27 = .ok (.iload_n 1, 1) := by decide +kernel
theorem dX13_laysTakes_28 : decode cX13_laysTakes 28 = .ok (.imul, 1) := by decide +kernel
theorem dX13_laysTakes_29 : decode cX13_laysTakes 29 = .ok (.iload_n 2, 1) := by decide +kernel
theorem dX13_laysTakes_30 : decode cX13_laysTakes 30 = .ok (.iadd, 1) := by decide +kernel
theorem dX13_laysTakes_31 : decode cX13_laysTakes 31 = .ok (.iload_n 2, 1) := by decide +kernel
theorem dX13_laysTakes_32 : decode cX13_laysTakes 32 = .ok (.ifCond .ne 7, 3) := by decide +kernel
theorem dX13_laysTakes_35 : decode cX13_laysTakes 35 = .ok (.iconst 0, 1) := by decide +kernel
theorem dX13_laysTakes_36 : decode cX13_laysTakes 36 = .ok (.goto 9, 3) := by decide +kernel
theorem dX13_laysTakes_39 : decode cX13_laysTakes 39 = .ok (.aload_n 0, 1) := by decide +kernel
theorem dX13_laysTakes_40 : decode cX13_laysTakes 40 = .ok (.iload_n 1, 1) := by decide +kernel
theorem dX13_laysTakes_41 : decode cX13_laysTakes 41 = .ok (.iload_n 2, 1) := by decide +kernel
theorem dX13_laysTakes_42 : decode cX13_laysTakes 42 = .ok (.invokevirtual 414, 3) := by decide +kernel
theorem dX13_laysTakes_45 : decode cX13_laysTakes 45 = .ok (.iastore, 1) := by decide +kernel
theorem dX13_laysTakes_46 : decode cX13_laysTakes 46 = .ok (.iinc 2 1, 3) := by decide +kernel
theorem dX13_laysTakes_49 : decode cX13_laysTakes 49 = .ok (.goto (-34), 3) := by decide +kernel
theorem dX13_laysTakes_52 : decode cX13_laysTakes 52 = .ok (.iinc 1 1, 3) := by decide +kernel
theorem dX13_laysTakes_55 : decode cX13_laysTakes 55 = .ok (.goto (-53), 3) := by decide +kernel
theorem dX13_laysTakes_58 : decode cX13_laysTakes 58 = .ok (.return_, 1) := by decide +kernel
theorem dX13_laysSet_0 : decode cX13_laysSet 0 = .ok (.ldc_w 413, 3) := by decide +kernel
theorem dX13_laysSet_3 : decode cX13_laysSet 3 = .ok (.istore_n 3, 1) := by decide +kernel
theorem dX13_laysSet_4 : decode cX13_laysSet 4 = .ok (.iconst 0, 1) := by decide +kernel
theorem dX13_laysSet_5 : decode cX13_laysSet 5 = .ok (.istore 4, 2) := by decide +kernel
theorem dX13_laysSet_7 : decode cX13_laysSet 7 = .ok (.iload 4, 2) := by decide +kernel
theorem dX13_laysSet_9 : decode cX13_laysSet 9 = .ok (.iconst 5, 1) := by decide +kernel
theorem dX13_laysSet_10 : decode cX13_laysSet 10 = .ok (.if_icmp .ge 236, 3) := by decide +kernel
theorem dX13_laysSet_13 : decode cX13_laysSet 13 = .ok (.iload_n 2, 1) := by decide +kernel
theorem dX13_laysSet_14 : decode cX13_laysSet 14 = .ok (.iload 4, 2) := by decide +kernel
theorem dX13_laysSet_16 : decode cX13_laysSet 16 = .ok (.invokestatic 400, 3) := by decide +kernel
theorem dX13_laysSet_19 : decode cX13_laysSet 19 = .ok (.ifCond .ne 6, 3) := by decide +kernel
theorem dX13_laysSet_22 : decode cX13_laysSet 22 = .ok (.goto 218, 3) := by decide +kernel
theorem dX13_laysSet_25 : decode cX13_laysSet 25 = .ok (.iload_n 2, 1) := by decide +kernel
theorem dX13_laysSet_26 : decode cX13_laysSet 26 = .ok (.iconst 1, 1) := by decide +kernel
theorem dX13_laysSet_27 : decode cX13_laysSet 27 = .ok (.iload 4, 2) := by decide +kernel
theorem dX13_laysSet_29 : decode cX13_laysSet 29 = .ok (.ishl, 1) := by decide +kernel
theorem dX13_laysSet_30 : decode cX13_laysSet 30 = .ok (.iconst (-1), 1) := by decide +kernel
theorem dX13_laysSet_31 : decode cX13_laysSet 31 = .ok (.ixor, 1) := by decide +kernel
theorem dX13_laysSet_32 : decode cX13_laysSet 32 = .ok (.iand, 1) := by decide +kernel
theorem dX13_laysSet_33 : decode cX13_laysSet 33 = .ok (.istore 5, 2) := by decide +kernel
theorem dX13_laysSet_35 : decode cX13_laysSet 35 = .ok (.ldc_w 413, 3) := by decide +kernel
theorem dX13_laysSet_38 : decode cX13_laysSet 38 = .ok (.istore 6, 2) := by decide +kernel
theorem dX13_laysSet_40 : decode cX13_laysSet 40 = .ok (.iload 4, 2) := by decide +kernel
theorem dX13_laysSet_42 : decode cX13_laysSet 42 = .ok (.aload_n 0, 1) := by decide +kernel
theorem dX13_laysSet_43 : decode cX13_laysSet 43 = .ok (.getfield 335, 3) := by decide +kernel
theorem dX13_laysSet_46 : decode cX13_laysSet 46 = .ok (.getfield 288, 3) := by decide +kernel
theorem dX13_laysSet_49 : decode cX13_laysSet 49 = .ok (.if_icmp .ge 171, 3) := by decide +kernel
theorem dX13_laysSet_52 : decode cX13_laysSet 52 = .ok (.aload_n 0, 1) := by decide +kernel
theorem dX13_laysSet_53 : decode cX13_laysSet 53 = .ok (.iload_n 1, 1) := by decide +kernel
theorem dX13_laysSet_54 : decode cX13_laysSet 54 = .ok (.iload 4, 2) := by decide +kernel
theorem dX13_laysSet_56 : decode cX13_laysSet 56 = .ok (.invokevirtual 417, 3) := by decide +kernel
theorem dX13_laysSet_59 : decode cX13_laysSet 59 = .ok (.ifCond .eq 161, 3) := by decide +kernel
theorem dX13_laysSet_62 : decode cX13_laysSet 62 = .ok (.aload_n 0, 1) := by decide +kernel
theorem dX13_laysSet_63 : decode cX13_laysSet 63 = .ok (.getfield 335, 3) := by decide +kernel
theorem dX13_laysSet_66 : decode cX13_laysSet 66 = .ok (.aload_n 0, 1) := by decide +kernel
theorem dX13_laysSet_67 : decode cX13_laysSet 67 = .ok (.getfield 17, 3) := by decide +kernel
theorem dX13_laysSet_70 : decode cX13_laysSet 70 = .ok (.bipush 6, 2) := by decide +kernel
theorem dX13_laysSet_72 : decode cX13_laysSet 72 = .ok (.iload 4, 2) := by decide +kernel
theorem dX13_laysSet_74 : decode cX13_laysSet 74 = .ok (.iadd, 1) := by decide +kernel
theorem dX13_laysSet_75 : decode cX13_laysSet 75 = .ok (.iaload, 1) := by decide +kernel
theorem dX13_laysSet_76 : decode cX13_laysSet 76 = .ok (.aload_n 0, 1) := by decide +kernel
theorem dX13_laysSet_77 : decode cX13_laysSet 77 = .ok (.getfield 335, 3) := by decide +kernel
theorem dX13_laysSet_80 : decode cX13_laysSet 80 = .ok (.getfield 300, 3) := by decide +kernel
theorem dX13_laysSet_83 : decode cX13_laysSet 83 = .ok (.iload 4, 2) := by decide +kernel
theorem dX13_laysSet_85 : decode cX13_laysSet 85 = .ok (.iaload, 1) := by decide +kernel
theorem dX13_laysSet_86 : decode cX13_laysSet 86 = .ok (.invokevirtual 410, 3) := by decide +kernel
theorem dX13_laysSet_89 : decode cX13_laysSet 89 = .ok (.istore 7, 2) := by decide +kernel
theorem dX13_laysSet_91 : decode cX13_laysSet 91 = .ok (.iload 5, 2) := by decide +kernel
theorem dX13_laysSet_93 : decode cX13_laysSet 93 = .ok (.ifCond .ne 34, 3) := by decide +kernel
theorem dX13_laysSet_96 : decode cX13_laysSet 96 = .ok (.aload_n 0, 1) := by decide +kernel
theorem dX13_laysSet_97 : decode cX13_laysSet 97 = .ok (.getfield 335, 3) := by decide +kernel
theorem dX13_laysSet_100 : decode cX13_laysSet 100 = .ok (.aload_n 0, 1) := by decide +kernel
theorem dX13_laysSet_101 : decode cX13_laysSet 101 = .ok (.getfield 335, 3) := by decide +kernel
theorem dX13_laysSet_104 : decode cX13_laysSet 104 = .ok (.getfield 281, 3) := by decide +kernel
theorem dX13_laysSet_107 : decode cX13_laysSet 107 = .ok (.iload_n 1, 1) := by decide +kernel
theorem dX13_laysSet_108 : decode cX13_laysSet 108 = .ok (.iaload, 1) := by decide +kernel
theorem dX13_laysSet_109 : decode cX13_laysSet 109 = .ok (.aload_n 0, 1) := by decide +kernel
theorem dX13_laysSet_110 : decode cX13_laysSet 110 = .ok (.getfield 17, 3) := by decide +kernel
theorem dX13_laysSet_113 : decode cX13_laysSet 113 = .ok (.bipush 6, 2) := by decide +kernel
theorem dX13_laysSet_115 : decode cX13_laysSet 115 = .ok (.iload 4, 2) := by decide +kernel
theorem dX13_laysSet_117 : decode cX13_laysSet 117 = .ok (.iadd, 1) := by decide +kernel
theorem dX13_laysSet_118 : decode cX13_laysSet 118 = .ok (.iaload, 1) := by decide +kernel
theorem dX13_laysSet_119 : decode cX13_laysSet 119 = .ok (.invokevirtual 410, 3) := by decide +kernel
theorem dX13_laysSet_122 : decode cX13_laysSet 122 = .ok (.iload 7, 2) := by decide +kernel
theorem dX13_laysSet_124 : decode cX13_laysSet 124 = .ok (.iadd, 1) := by decide +kernel
theorem dX13_laysSet_125 : decode cX13_laysSet 125 = .ok (.istore 6, 2) := by decide +kernel
theorem dX13_laysSet_127 : decode cX13_laysSet 127 = .ok (.iconst 0, 1) := by decide +kernel
theorem dX13_laysSet_128 : decode cX13_laysSet 128 = .ok (.istore 8, 2) := by decide +kernel
theorem dX13_laysSet_130 : decode cX13_laysSet 130 = .ok (.iload 8, 2) := by decide +kernel
theorem dX13_laysSet_132 : decode cX13_laysSet 132 = .ok (.iconst 5, 1) := by decide +kernel
theorem dX13_laysSet_133 : decode cX13_laysSet 133 = .ok (.if_icmp .ge 87, 3) := by decide +kernel
theorem dX13_laysSet_136 : decode cX13_laysSet 136 = .ok (.iload 5, 2) := by decide +kernel
theorem dX13_laysSet_138 : decode cX13_laysSet 138 = .ok (.iload 8, 2) := by decide +kernel
theorem dX13_laysSet_140 : decode cX13_laysSet 140 = .ok (.invokestatic 400, 3) := by decide +kernel
theorem dX13_laysSet_143 : decode cX13_laysSet 143 = .ok (.ifCond .eq 71, 3) := by decide +kernel
theorem dX13_laysSet_146 : decode cX13_laysSet 146 = .ok (.aload_n 0, 1) := by decide +kernel
theorem dX13_laysSet_147 : decode cX13_laysSet 147 = .ok (.getfield 27, 3) := by decide +kernel
theorem dX13_laysSet_150 : decode cX13_laysSet 150 = .ok (.iconst 5, 1) := by decide +kernel
theorem dX13_laysSet_151 : decode cX13_laysSet 151 = .ok (.iload 5, 2) := by decide +kernel
theorem dX13_laysSet_153 : decode cX13_laysSet 153 = .ok (.imul, 1) := by decide +kernel
theorem dX13_laysSet_154 : decode cX13_laysSet 154 = .ok (.iload 8, 2) := by decide +kernel
theorem dX13_laysSet_156 : decode cX13_laysSet 156 = .ok (.iadd, 1) := by decide +kernel
theorem dX13_laysSet_157 : decode cX13_laysSet 157 = .ok (.iaload, 1) := by decide +kernel
theorem dX13_laysSet_158 : decode cX13_laysSet 158 = .ok (.ldc_w 413, 3) := by decide +kernel
theorem dX13_laysSet_161 : decode cX13_laysSet 161 = .ok (.if_icmp .ge 53, 3) := by decide +kernel
theorem dX13_laysSet_164 : decode cX13_laysSet 164 = .ok (.iload 6, 2) := by decide +kernel
theorem dX13_laysSet_166 : decode cX13_laysSet 166 = .ok (.aload_n 0, 1) := by decide +kernel
theorem dX13_laysSet_167 : decode cX13_laysSet 167 = .ok (.getfield 27, 3) := by decide +kernel
theorem dX13_laysSet_170 : decode cX13_laysSet 170 = .ok (.iconst 5, 1) := by decide +kernel
theorem dX13_laysSet_171 : decode cX13_laysSet 171 = .ok (.iload 5, 2) := by decide +kernel
theorem dX13_laysSet_173 : decode cX13_laysSet 173 = .ok (.imul, 1) := by decide +kernel
theorem dX13_laysSet_174 : decode cX13_laysSet 174 = .ok (.iload 8, 2) := by decide +kernel
theorem dX13_laysSet_176 : decode cX13_laysSet 176 = .ok (.iadd, 1) := by decide +kernel
theorem dX13_laysSet_177 : decode cX13_laysSet 177 = .ok (.iaload, 1) := by decide +kernel
theorem dX13_laysSet_178 : decode cX13_laysSet 178 = .ok (.aload_n 0, 1) := by decide +kernel
theorem dX13_laysSet_179 : decode cX13_laysSet 179 = .ok (.getfield 335, 3) := by decide +kernel
theorem dX13_laysSet_182 : decode cX13_laysSet 182 = .ok (.aload_n 0, 1) := by decide +kernel
theorem dX13_laysSet_183 : decode cX13_laysSet 183 = .ok (.getfield 335, 3) := by decide +kernel
theorem dX13_laysSet_186 : decode cX13_laysSet 186 = .ok (.getfield 300, 3) := by decide +kernel
theorem dX13_laysSet_189 : decode cX13_laysSet 189 = .ok (.iload 8, 2) := by decide +kernel
theorem dX13_laysSet_191 : decode cX13_laysSet 191 = .ok (.iaload, 1) := by decide +kernel
theorem dX13_laysSet_192 : decode cX13_laysSet 192 = .ok (.aload_n 0, 1) := by decide +kernel
theorem dX13_laysSet_193 : decode cX13_laysSet 193 = .ok (.getfield 17, 3) := by decide +kernel
theorem dX13_laysSet_196 : decode cX13_laysSet 196 = .ok (.bipush 6, 2) := by decide +kernel
theorem dX13_laysSet_198 : decode cX13_laysSet 198 = .ok (.iload 4, 2) := by decide +kernel
theorem dX13_laysSet_200 : decode cX13_laysSet 200 = .ok (.iadd, 1) := by decide +kernel
theorem dX13_laysSet_201 : decode cX13_laysSet 201 = .ok (.iaload, 1) := by decide +kernel
theorem dX13_laysSet_202 : decode cX13_laysSet 202 = .ok (.invokevirtual 410, 3) := by decide +kernel
theorem dX13_laysSet_205 : decode cX13_laysSet 205 = .ok (.iadd, 1) := by decide +kernel
theorem dX13_laysSet_206 : decode cX13_laysSet 206 = .ok (.iload 7, 2) := by decide +kernel
theorem dX13_laysSet_208 : decode cX13_laysSet 208 = .ok (.iadd, 1) := by decide +kernel
theorem dX13_laysSet_209 : decode cX13_laysSet 209 = .ok (.invokestatic 349, 3) := by decide +kernel
theorem dX13_laysSet_212 : decode cX13_laysSet 212 = .ok (.istore 6, 2) := by decide +kernel
theorem dX13_laysSet_214 : decode cX13_laysSet 214 = .ok (.iinc 8 1, 3) := by decide +kernel
theorem dX13_laysSet_217 : decode cX13_laysSet 217 = .ok (.goto (-87), 3) := by decide +kernel
theorem dX13_laysSet_220 : decode cX13_laysSet 220 = .ok (.aload_n 0, 1) := by decide +kernel
theorem dX13_laysSet_221 : decode cX13_laysSet 221 = .ok (.getfield 27, 3) := by decide +kernel
theorem dX13_laysSet_224 : decode cX13_laysSet 224 = .ok (.iconst 5, 1) := by decide +kernel
theorem dX13_laysSet_225 : decode cX13_laysSet 225 = .ok (.iload_n 2, 1) := by decide +kernel
theorem dX13_laysSet_226 : decode cX13_laysSet 226 = .ok (.imul, 1) := by decide +kernel
theorem dX13_laysSet_227 : decode cX13_laysSet 227 = .ok (.iload 4, 2) := by decide +kernel
theorem dX13_laysSet_229 : decode cX13_laysSet 229 = .ok (.iadd, 1) := by decide +kernel
theorem dX13_laysSet_230 : decode cX13_laysSet 230 = .ok (.iload 6, 2) := by decide +kernel
theorem dX13_laysSet_232 : decode cX13_laysSet 232 = .ok (.iastore, 1) := by decide +kernel
theorem dX13_laysSet_233 : decode cX13_laysSet 233 = .ok (.iload_n 3, 1) := by decide +kernel
theorem dX13_laysSet_234 : decode cX13_laysSet 234 = .ok (.iload 6, 2) := by decide +kernel
theorem dX13_laysSet_236 : decode cX13_laysSet 236 = .ok (.invokestatic 349, 3) := by decide +kernel
theorem dX13_laysSet_239 : decode cX13_laysSet 239 = .ok (.istore_n 3, 1) := by decide +kernel
theorem dX13_laysSet_240 : decode cX13_laysSet 240 = .ok (.iinc 4 1, 3) := by decide +kernel
theorem dX13_laysSet_243 : decode cX13_laysSet 243 = .ok (.goto (-236), 3) := by decide +kernel
theorem dX13_laysSet_246 : decode cX13_laysSet 246 = .ok (.iload_n 3, 1) := by decide +kernel
theorem dX13_laysSet_247 : decode cX13_laysSet 247 = .ok (.ireturn, 1) := by decide +kernel
theorem dX13_carries_0 : decode cX13_carries 0 = .ok (.aload_n 0, 1) := by decide +kernel
theorem dX13_carries_1 : decode cX13_carries 1 = .ok (.invokevirtual 420, 3) := by decide +kernel
theorem dX13_carries_4 : decode cX13_carries 4 = .ok (.aload_n 0, 1) := by decide +kernel
theorem dX13_carries_5 : decode cX13_carries 5 = .ok (.ldc_w 413, 3) := by decide +kernel
theorem dX13_carries_8 : decode cX13_carries 8 = .ok (.putfield 423, 3) := by decide +kernel
theorem dX13_carries_11 : decode cX13_carries 11 = .ok (.iconst 0, 1) := by decide +kernel
theorem dX13_carries_12 : decode cX13_carries 12 = .ok (.istore_n 1, 1) := by decide +kernel
theorem dX13_carries_13 : decode cX13_carries 13 = .ok (.iload_n 1, 1) := by decide +kernel
theorem dX13_carries_14 : decode cX13_carries 14 = .ok (.iconst 5, 1) := by decide +kernel
theorem dX13_carries_15 : decode cX13_carries 15 = .ok (.if_icmp .ge 16, 3) := by decide +kernel
theorem dX13_carries_18 : decode cX13_carries 18 = .ok (.aload_n 0, 1) := by decide +kernel
theorem dX13_carries_19 : decode cX13_carries 19 = .ok (.getfield 33, 3) := by decide +kernel
theorem dX13_carries_22 : decode cX13_carries 22 = .ok (.iload_n 1, 1) := by decide +kernel
theorem dX13_carries_23 : decode cX13_carries 23 = .ok (.iconst 0, 1) := by decide +kernel
theorem dX13_carries_24 : decode cX13_carries 24 = .ok (.iastore, 1) := by decide +kernel
theorem dX13_carries_25 : decode cX13_carries 25 = .ok (.iinc 1 1, 3) := by decide +kernel
theorem dX13_carries_28 : decode cX13_carries 28 = .ok (.goto (-15), 3) := by decide +kernel
theorem dX13_carries_31 : decode cX13_carries 31 = .ok (.iconst 1, 1) := by decide +kernel
theorem dX13_carries_32 : decode cX13_carries 32 = .ok (.istore_n 1, 1) := by decide +kernel
theorem dX13_carries_33 : decode cX13_carries 33 = .ok (.iload_n 1, 1) := by decide +kernel
theorem dX13_carries_34 : decode cX13_carries 34 = .ok (.ifCond .eq 54, 3) := by decide +kernel
theorem dX13_carries_37 : decode cX13_carries 37 = .ok (.aload_n 0, 1) := by decide +kernel
theorem dX13_carries_38 : decode cX13_carries 38 = .ok (.invokevirtual 426, 3) := by decide +kernel
theorem dX13_carries_41 : decode cX13_carries 41 = .ok (.istore_n 2, 1) := by decide +kernel
theorem dX13_carries_42 : decode cX13_carries 42 = .ok (.iload_n 2, 1) := by decide +kernel
theorem dX13_carries_43 : decode cX13_carries 43 = .ok (.aload_n 0, 1) := by decide +kernel
theorem dX13_carries_44 : decode cX13_carries 44 = .ok (.getfield 423, 3) := by decide +kernel
theorem dX13_carries_47 : decode cX13_carries 47 = .ok (.if_icmp .ge 33, 3) := by decide +kernel
theorem dX13_carries_50 : decode cX13_carries 50 = .ok (.aload_n 0, 1) := by decide +kernel
theorem dX13_carries_51 : decode cX13_carries 51 = .ok (.iload_n 2, 1) := by decide +kernel
theorem dX13_carries_52 : decode cX13_carries 52 = .ok (.putfield 423, 3) := by decide +kernel
theorem dX13_carries_55 : decode cX13_carries 55 = .ok (.iconst 0, 1) := by decide +kernel
theorem dX13_carries_56 : decode cX13_carries 56 = .ok (.istore_n 3, 1) := by decide +kernel
theorem dX13_carries_57 : decode cX13_carries 57 = .ok (.iload_n 3, 1) := by decide +kernel
theorem dX13_carries_58 : decode cX13_carries 58 = .ok (.iconst 5, 1) := by decide +kernel
theorem dX13_carries_59 : decode cX13_carries 59 = .ok (.if_icmp .ge 21, 3) := by decide +kernel
theorem dX13_carries_62 : decode cX13_carries 62 = .ok (.aload_n 0, 1) := by decide +kernel
theorem dX13_carries_63 : decode cX13_carries 63 = .ok (.getfield 36, 3) := by decide +kernel
theorem dX13_carries_66 : decode cX13_carries 66 = .ok (.iload_n 3, 1) := by decide +kernel
theorem dX13_carries_67 : decode cX13_carries 67 = .ok (.aload_n 0, 1) := by decide +kernel
theorem dX13_carries_68 : decode cX13_carries 68 = .ok (.getfield 33, 3) := by decide +kernel
theorem dX13_carries_71 : decode cX13_carries 71 = .ok (.iload_n 3, 1) := by decide +kernel
theorem dX13_carries_72 : decode cX13_carries 72 = .ok (.iaload, 1) := by decide +kernel
theorem dX13_carries_73 : decode cX13_carries 73 = .ok (.iastore, 1) := by decide +kernel
theorem dX13_carries_74 : decode cX13_carries 74 = .ok (.iinc 3 1, 3) := by decide +kernel
theorem dX13_carries_77 : decode cX13_carries 77 = .ok (.goto (-20), 3) := by decide +kernel
theorem dX13_carries_80 : decode cX13_carries 80 = .ok (.aload_n 0, 1) := by decide +kernel
theorem dX13_carries_81 : decode cX13_carries 81 = .ok (.invokevirtual 429, 3) := by decide +kernel
theorem dX13_carries_84 : decode cX13_carries 84 = .ok (.istore_n 1, 1) := by decide +kernel
theorem dX13_carries_85 : decode cX13_carries 85 = .ok (.goto (-52), 3) := by decide +kernel
theorem dX13_carries_88 : decode cX13_carries 88 = .ok (.return_, 1) := by decide +kernel
theorem dX13_minutesBy_0 : decode cX13_minutesBy 0 = .ok (.iconst 0, 1) := by decide +kernel
theorem dX13_minutesBy_1 : decode cX13_minutesBy 1 = .ok (.istore_n 1, 1) := by decide +kernel
theorem dX13_minutesBy_2 : decode cX13_minutesBy 2 = .ok (.iconst 0, 1) := by decide +kernel
theorem dX13_minutesBy_3 : decode cX13_minutesBy 3 = .ok (.istore_n 2, 1) := by decide +kernel
theorem dX13_minutesBy_4 : decode cX13_minutesBy 4 = .ok (.iload_n 2, 1) := by decide +kernel
theorem dX13_minutesBy_5 : decode cX13_minutesBy 5 = .ok (.aload_n 0, 1) := by decide +kernel
theorem dX13_minutesBy_6 : decode cX13_minutesBy 6 = .ok (.getfield 335, 3) := by decide +kernel
theorem dX13_minutesBy_9 : decode cX13_minutesBy 9 = .ok (.getfield 199, 3) := by decide +kernel
theorem dX13_minutesBy_12 : decode cX13_minutesBy 12 = .ok (.if_icmp .ge 16, 3) := by decide +kernel
theorem dX13_minutesBy_15 : decode cX13_minutesBy 15 = .ok (.aload_n 0, 1) := by decide +kernel
theorem dX13_minutesBy_16 : decode cX13_minutesBy 16 = .ok (.getfield 39, 3) := by decide +kernel
theorem dX13_minutesBy_19 : decode cX13_minutesBy 19 = .ok (.iload_n 2, 1) := by decide +kernel
theorem dX13_minutesBy_20 : decode cX13_minutesBy 20 = .ok (.iconst 0, 1) := by decide +kernel
theorem dX13_minutesBy_21 : decode cX13_minutesBy 21 = .ok (.iastore, 1) := by decide +kernel
theorem dX13_minutesBy_22 : decode cX13_minutesBy 22 = .ok (.iinc 2 1, 3) := by decide +kernel
theorem dX13_minutesBy_25 : decode cX13_minutesBy 25 = .ok (.goto (-21), 3) := by decide +kernel
theorem dX13_minutesBy_28 : decode cX13_minutesBy 28 = .ok (.iconst 0, 1) := by decide +kernel
theorem dX13_minutesBy_29 : decode cX13_minutesBy 29 = .ok (.istore_n 2, 1) := by decide +kernel
theorem dX13_minutesBy_30 : decode cX13_minutesBy 30 = .ok (.iload_n 2, 1) := by decide +kernel
theorem dX13_minutesBy_31 : decode cX13_minutesBy 31 = .ok (.aload_n 0, 1) := by decide +kernel
theorem dX13_minutesBy_32 : decode cX13_minutesBy 32 = .ok (.getfield 335, 3) := by decide +kernel
theorem dX13_minutesBy_35 : decode cX13_minutesBy 35 = .ok (.getfield 288, 3) := by decide +kernel
theorem dX13_minutesBy_38 : decode cX13_minutesBy 38 = .ok (.if_icmp .ge 34, 3) := by decide +kernel
theorem dX13_minutesBy_41 : decode cX13_minutesBy 41 = .ok (.aload_n 0, 1) := by decide +kernel
theorem dX13_minutesBy_42 : decode cX13_minutesBy 42 = .ok (.iload_n 2, 1) := by decide +kernel
theorem dX13_minutesBy_43 : decode cX13_minutesBy 43 = .ok (.invokevirtual 432, 3) := by decide +kernel
theorem dX13_minutesBy_46 : decode cX13_minutesBy 46 = .ok (.ifCond .eq 20, 3) := by decide +kernel
theorem dX13_minutesBy_49 : decode cX13_minutesBy 49 = .ok (.aload_n 0, 1) := by decide +kernel
theorem dX13_minutesBy_50 : decode cX13_minutesBy 50 = .ok (.getfield 39, 3) := by decide +kernel
theorem dX13_minutesBy_53 : decode cX13_minutesBy 53 = .ok (.aload_n 0, 1) := by decide +kernel
theorem dX13_minutesBy_54 : decode cX13_minutesBy 54 = .ok (.getfield 33, 3) := by decide +kernel
theorem dX13_minutesBy_57 : decode cX13_minutesBy 57 = .ok (.iload_n 2, 1) := by decide +kernel
theorem dX13_minutesBy_58 : decode cX13_minutesBy 58 = .ok (.iaload, 1) := by decide +kernel
theorem dX13_minutesBy_59 : decode cX13_minutesBy 59 = .ok (.dup2, 1) := by decide +kernel
theorem dX13_minutesBy_60 : decode cX13_minutesBy 60 = .ok (.iaload, 1) := by decide +kernel
theorem dX13_minutesBy_61 : decode cX13_minutesBy 61 = .ok (.iconst 1, 1) := by decide +kernel
theorem dX13_minutesBy_62 : decode cX13_minutesBy 62 = .ok (.iload_n 2, 1) := by decide +kernel
theorem dX13_minutesBy_63 : decode cX13_minutesBy 63 = .ok (.ishl, 1) := by decide +kernel
theorem dX13_minutesBy_64 : decode cX13_minutesBy 64 = .ok (.ior, 1) := by decide +kernel
theorem dX13_minutesBy_65 : decode cX13_minutesBy 65 = .ok (.iastore, 1) := by decide +kernel
theorem dX13_minutesBy_66 : decode cX13_minutesBy 66 = .ok (.iinc 2 1, 3) := by decide +kernel
theorem dX13_minutesBy_69 : decode cX13_minutesBy 69 = .ok (.goto (-39), 3) := by decide +kernel
theorem dX13_minutesBy_72 : decode cX13_minutesBy 72 = .ok (.iconst 0, 1) := by decide +kernel
theorem dX13_minutesBy_73 : decode cX13_minutesBy 73 = .ok (.istore_n 2, 1) := by decide +kernel
theorem dX13_minutesBy_74 : decode cX13_minutesBy 74 = .ok (.iload_n 2, 1) := by decide +kernel
theorem dX13_minutesBy_75 : decode cX13_minutesBy 75 = .ok (.aload_n 0, 1) := by decide +kernel
theorem dX13_minutesBy_76 : decode cX13_minutesBy 76 = .ok (.getfield 335, 3) := by decide +kernel
theorem dX13_minutesBy_79 : decode cX13_minutesBy 79 = .ok (.getfield 199, 3) := by decide +kernel
theorem dX13_minutesBy_82 : decode cX13_minutesBy 82 = .ok (.if_icmp .ge 46, 3) := by decide +kernel
theorem dX13_minutesBy_85 : decode cX13_minutesBy 85 = .ok (.aload_n 0, 1) := by decide +kernel
theorem dX13_minutesBy_86 : decode cX13_minutesBy 86 = .ok (.getfield 30, 3) := by decide +kernel
theorem dX13_minutesBy_89 : decode cX13_minutesBy 89 = .ok (.bipush 32, 2) := by decide +kernel
theorem dX13_minutesBy_91 : decode cX13_minutesBy 91 = .ok (.iload_n 2, 1) := by decide +kernel
theorem dX13_minutesBy_92 : decode cX13_minutesBy 92 = .ok (.imul, 1) := by decide +kernel
theorem dX13_minutesBy_93 : decode cX13_minutesBy 93 = .ok (.aload_n 0, 1) := by decide +kernel
theorem dX13_minutesBy_94 : decode cX13_minutesBy 94 = .ok (.getfield 39, 3) := by decide +kernel
theorem dX13_minutesBy_97 : decode cX13_minutesBy 97 = .ok (.iload_n 2, 1) := by decide +kernel
theorem dX13_minutesBy_98 : decode cX13_minutesBy 98 = .ok (.iaload, 1) := by decide +kernel
theorem dX13_minutesBy_99 : decode cX13_minutesBy 99 = .ok (.iadd, 1) := by decide +kernel
theorem dX13_minutesBy_100 : decode cX13_minutesBy 100 = .ok (.iaload, 1) := by decide +kernel
theorem dX13_minutesBy_101 : decode cX13_minutesBy 101 = .ok (.iload_n 1, 1) := by decide +kernel
theorem dX13_minutesBy_102 : decode cX13_minutesBy 102 = .ok (.if_icmp .le 20, 3) := by decide +kernel
theorem dX13_minutesBy_105 : decode cX13_minutesBy 105 = .ok (.aload_n 0, 1) := by decide +kernel
theorem dX13_minutesBy_106 : decode cX13_minutesBy 106 = .ok (.getfield 30, 3) := by decide +kernel
theorem dX13_minutesBy_109 : decode cX13_minutesBy 109 = .ok (.bipush 32, 2) := by decide +kernel
theorem dX13_minutesBy_111 : decode cX13_minutesBy 111 = .ok (.iload_n 2, 1) := by decide +kernel
theorem dX13_minutesBy_112 : decode cX13_minutesBy 112 = .ok (.imul, 1) := by decide +kernel
theorem dX13_minutesBy_113 : decode cX13_minutesBy 113 = .ok (.aload_n 0, 1) := by decide +kernel
theorem dX13_minutesBy_114 : decode cX13_minutesBy 114 = .ok (.getfield 39, 3) := by decide +kernel
theorem dX13_minutesBy_117 : decode cX13_minutesBy 117 = .ok (.iload_n 2, 1) := by decide +kernel
theorem dX13_minutesBy_118 : decode cX13_minutesBy 118 = .ok (.iaload, 1) := by decide +kernel
theorem dX13_minutesBy_119 : decode cX13_minutesBy 119 = .ok (.iadd, 1) := by decide +kernel
theorem dX13_minutesBy_120 : decode cX13_minutesBy 120 = .ok (.iaload, 1) := by decide +kernel
theorem dX13_minutesBy_121 : decode cX13_minutesBy 121 = .ok (.istore_n 1, 1) := by decide +kernel
theorem dX13_minutesBy_122 : decode cX13_minutesBy 122 = .ok (.iinc 2 1, 3) := by decide +kernel
theorem dX13_minutesBy_125 : decode cX13_minutesBy 125 = .ok (.goto (-51), 3) := by decide +kernel
theorem dX13_minutesBy_128 : decode cX13_minutesBy 128 = .ok (.iload_n 1, 1) := by decide +kernel
theorem dX13_minutesBy_129 : decode cX13_minutesBy 129 = .ok (.ireturn, 1) := by decide +kernel
theorem dX13_nextBy_0 : decode cX13_nextBy 0 = .ok (.aload_n 0, 1) := by decide +kernel
theorem dX13_nextBy_1 : decode cX13_nextBy 1 = .ok (.getfield 335, 3) := by decide +kernel
theorem dX13_nextBy_4 : decode cX13_nextBy 4 = .ok (.getfield 288, 3) := by decide +kernel
theorem dX13_nextBy_7 : decode cX13_nextBy 7 = .ok (.iconst 1, 1) := by decide +kernel
theorem dX13_nextBy_8 : decode cX13_nextBy 8 = .ok (.isub, 1) := by decide +kernel
theorem dX13_nextBy_9 : decode cX13_nextBy 9 = .ok (.istore_n 1, 1) := by decide +kernel
theorem dX13_nextBy_10 : decode cX13_nextBy 10 = .ok (.iload_n 1, 1) := by decide +kernel
theorem dX13_nextBy_11 : decode cX13_nextBy 11 = .ok (.ifCond .lt 55, 3) := by decide +kernel
theorem dX13_nextBy_14 : decode cX13_nextBy 14 = .ok (.aload_n 0, 1) := by decide +kernel
theorem dX13_nextBy_15 : decode cX13_nextBy 15 = .ok (.iload_n 1, 1) := by decide +kernel
theorem dX13_nextBy_16 : decode cX13_nextBy 16 = .ok (.invokevirtual 432, 3) := by decide +kernel
theorem dX13_nextBy_19 : decode cX13_nextBy 19 = .ok (.ifCond .ne 6, 3) := by decide +kernel
theorem dX13_nextBy_22 : decode cX13_nextBy 22 = .ok (.goto 38, 3) := by decide +kernel
theorem dX13_nextBy_25 : decode cX13_nextBy 25 = .ok (.aload_n 0, 1) := by decide +kernel
theorem dX13_nextBy_26 : decode cX13_nextBy 26 = .ok (.getfield 33, 3) := by decide +kernel
theorem dX13_nextBy_29 : decode cX13_nextBy 29 = .ok (.iload_n 1, 1) := by decide +kernel
theorem dX13_nextBy_30 : decode cX13_nextBy 30 = .ok (.dup2, 1) := by decide +kernel
theorem dX13_nextBy_31 : decode cX13_nextBy 31 = .ok (.iaload, 1) := by decide +kernel
theorem dX13_nextBy_32 : decode cX13_nextBy 32 = .ok (.iconst 1, 1) := by decide +kernel
theorem dX13_nextBy_33 : decode cX13_nextBy 33 = .ok (.iadd, 1) := by decide +kernel
theorem dX13_nextBy_34 : decode cX13_nextBy 34 = .ok (.iastore, 1) := by decide +kernel
theorem dX13_nextBy_35 : decode cX13_nextBy 35 = .ok (.aload_n 0, 1) := by decide +kernel
theorem dX13_nextBy_36 : decode cX13_nextBy 36 = .ok (.getfield 33, 3) := by decide +kernel
theorem dX13_nextBy_39 : decode cX13_nextBy 39 = .ok (.iload_n 1, 1) := by decide +kernel
theorem dX13_nextBy_40 : decode cX13_nextBy 40 = .ok (.iaload, 1) := by decide +kernel
theorem dX13_nextBy_41 : decode cX13_nextBy 41 = .ok (.aload_n 0, 1) := by decide +kernel
theorem dX13_nextBy_42 : decode cX13_nextBy 42 = .ok (.getfield 335, 3) := by decide +kernel
theorem dX13_nextBy_45 : decode cX13_nextBy 45 = .ok (.getfield 199, 3) := by decide +kernel
theorem dX13_nextBy_48 : decode cX13_nextBy 48 = .ok (.if_icmp .ge 5, 3) := by decide +kernel
theorem dX13_nextBy_51 : decode cX13_nextBy 51 = .ok (.iconst 1, 1) := by decide +kernel
theorem dX13_nextBy_52 : decode cX13_nextBy 52 = .ok (.ireturn, 1) := by decide +kernel
theorem dX13_nextBy_53 : decode cX13_nextBy 53 = .ok (.aload_n 0, 1) := by decide +kernel
theorem dX13_nextBy_54 : decode cX13_nextBy 54 = .ok (.getfield 33, 3) := by decide +kernel
theorem dX13_nextBy_57 : decode cX13_nextBy 57 = .ok (.iload_n 1, 1) := by decide +kernel
theorem dX13_nextBy_58 : decode cX13_nextBy 58 = .ok (.iconst 0, 1) := by decide +kernel
theorem dX13_nextBy_59 : decode cX13_nextBy 59 = .ok (.iastore, 1) := by decide +kernel
theorem dX13_nextBy_60 : decode cX13_nextBy 60 = .ok (.iinc 1 (-1), 3) := by decide +kernel
theorem dX13_nextBy_63 : decode cX13_nextBy 63 = .ok (.goto (-53), 3) := by decide +kernel
theorem dX13_nextBy_66 : decode cX13_nextBy 66 = .ok (.iconst 0, 1) := by decide +kernel
theorem dX13_nextBy_67 : decode cX13_nextBy 67 = .ok (.ireturn, 1) := by decide +kernel
theorem dX13_carried_0 : decode cX13_carried 0 = .ok (.aload_n 0, 1) := by decide +kernel
theorem dX13_carried_1 : decode cX13_carried 1 = .ok (.iconst 0, 1) := by decide +kernel
theorem dX13_carried_2 : decode cX13_carried 2 = .ok (.putfield 51, 3) := by decide +kernel
theorem dX13_carried_5 : decode cX13_carried 5 = .ok (.aload_n 0, 1) := by decide +kernel
theorem dX13_carried_6 : decode cX13_carried 6 = .ok (.getfield 335, 3) := by decide +kernel
theorem dX13_carried_9 : decode cX13_carried 9 = .ok (.ifnonnull 9, 3) := by decide +kernel
theorem dX13_carried_12 : decode cX13_carried 12 = .ok (.aload_n 0, 1) := by decide +kernel
theorem dX13_carried_13 : decode cX13_carried 13 = .ok (.iconst 1, 1) := by decide +kernel
theorem dX13_carried_14 : decode cX13_carried 14 = .ok (.invokevirtual 57, 3) := by decide +kernel
theorem dX13_carried_17 : decode cX13_carried 17 = .ok (.ireturn, 1) := by decide +kernel
theorem dX13_carried_18 : decode cX13_carried 18 = .ok (.aload_n 0, 1) := by decide +kernel
theorem dX13_carried_19 : decode cX13_carried 19 = .ok (.invokevirtual 435, 3) := by decide +kernel
theorem dX13_carried_22 : decode cX13_carried 22 = .ok (.aload_n 0, 1) := by decide +kernel
theorem dX13_carried_23 : decode cX13_carried 23 = .ok (.aload_n 0, 1) := by decide +kernel
theorem dX13_carried_24 : decode cX13_carried 24 = .ok (.getfield 423, 3) := by decide +kernel
theorem dX13_carried_27 : decode cX13_carried 27 = .ok (.ldc_w 413, 3) := by decide +kernel
theorem dX13_carried_30 : decode cX13_carried 30 = .ok (.if_icmp .lt 8, 3) := by decide +kernel
theorem dX13_carried_33 : decode cX13_carried 33 = .ok (.bipush (-2), 2) := by decide +kernel
theorem dX13_carried_35 : decode cX13_carried 35 = .ok (.goto 7, 3) := by decide +kernel
theorem dX13_carried_38 : decode cX13_carried 38 = .ok (.aload_n 0, 1) := by decide +kernel
theorem dX13_carried_39 : decode cX13_carried 39 = .ok (.getfield 423, 3) := by decide +kernel
theorem dX13_carried_42 : decode cX13_carried 42 = .ok (.invokevirtual 61, 3) := by decide +kernel
theorem dX13_carried_45 : decode cX13_carried 45 = .ok (.ireturn, 1) := by decide +kernel
theorem dX13_carrier_0 : decode cX13_carrier 0 = .ok (.aload_n 0, 1) := by decide +kernel
theorem dX13_carrier_1 : decode cX13_carrier 1 = .ok (.iconst 0, 1) := by decide +kernel
theorem dX13_carrier_2 : decode cX13_carrier 2 = .ok (.putfield 51, 3) := by decide +kernel
theorem dX13_carrier_5 : decode cX13_carrier 5 = .ok (.aload_n 0, 1) := by decide +kernel
theorem dX13_carrier_6 : decode cX13_carrier 6 = .ok (.iload_n 1, 1) := by decide +kernel
theorem dX13_carrier_7 : decode cX13_carrier 7 = .ok (.invokevirtual 361, 3) := by decide +kernel
theorem dX13_carrier_10 : decode cX13_carrier 10 = .ok (.ifCond .ne 9, 3) := by decide +kernel
theorem dX13_carrier_13 : decode cX13_carrier 13 = .ok (.aload_n 0, 1) := by decide +kernel
theorem dX13_carrier_14 : decode cX13_carrier 14 = .ok (.iconst 1, 1) := by decide +kernel
theorem dX13_carrier_15 : decode cX13_carrier 15 = .ok (.invokevirtual 57, 3) := by decide +kernel
theorem dX13_carrier_18 : decode cX13_carrier 18 = .ok (.ireturn, 1) := by decide +kernel
theorem dX13_carrier_19 : decode cX13_carrier 19 = .ok (.aload_n 0, 1) := by decide +kernel
theorem dX13_carrier_20 : decode cX13_carrier 20 = .ok (.invokevirtual 435, 3) := by decide +kernel
theorem dX13_carrier_23 : decode cX13_carrier 23 = .ok (.aload_n 0, 1) := by decide +kernel
theorem dX13_carrier_24 : decode cX13_carrier 24 = .ok (.getfield 423, 3) := by decide +kernel
theorem dX13_carrier_27 : decode cX13_carrier 27 = .ok (.ldc_w 413, 3) := by decide +kernel
theorem dX13_carrier_30 : decode cX13_carrier 30 = .ok (.if_icmp .lt 10, 3) := by decide +kernel
theorem dX13_carrier_33 : decode cX13_carrier 33 = .ok (.aload_n 0, 1) := by decide +kernel
theorem dX13_carrier_34 : decode cX13_carrier 34 = .ok (.bipush 6, 2) := by decide +kernel
theorem dX13_carrier_36 : decode cX13_carrier 36 = .ok (.invokevirtual 57, 3) := by decide +kernel
theorem dX13_carrier_39 : decode cX13_carrier 39 = .ok (.ireturn, 1) := by decide +kernel
theorem dX13_carrier_40 : decode cX13_carrier 40 = .ok (.aload_n 0, 1) := by decide +kernel
theorem dX13_carrier_41 : decode cX13_carrier 41 = .ok (.aload_n 0, 1) := by decide +kernel
theorem dX13_carrier_42 : decode cX13_carrier 42 = .ok (.iload_n 1, 1) := by decide +kernel
theorem dX13_carrier_43 : decode cX13_carrier 43 = .ok (.invokevirtual 432, 3) := by decide +kernel
theorem dX13_carrier_46 : decode cX13_carrier 46 = .ok (.ifCond .eq 12, 3) := by decide +kernel
theorem dX13_carrier_49 : decode cX13_carrier 49 = .ok (.aload_n 0, 1) := by decide +kernel
theorem dX13_carrier_50 : decode cX13_carrier 50 = .ok (.getfield 36, 3) := by decide +kernel
theorem dX13_carrier_53 : decode cX13_carrier 53 = .ok (.iload_n 1, 1) := by decide +kernel
theorem dX13_carrier_54 : decode cX13_carrier 54 = .ok (.iaload, 1) := by decide +kernel
theorem dX13_carrier_55 : decode cX13_carrier 55 = .ok (.goto 5, 3) := by decide +kernel
theorem dX13_carrier_58 : decode cX13_carrier 58 = .ok (.bipush (-2), 2) := by decide +kernel
theorem dX13_carrier_60 : decode cX13_carrier 60 = .ok (.invokevirtual 61, 3) := by decide +kernel
theorem dX13_carrier_63 : decode cX13_carrier 63 = .ok (.ireturn, 1) := by decide +kernel
theorem dX13_alone_0 : decode cX13_alone 0 = .ok (.aload_n 0, 1) := by decide +kernel
theorem dX13_alone_1 : decode cX13_alone 1 = .ok (.iconst 0, 1) := by decide +kernel
theorem dX13_alone_2 : decode cX13_alone 2 = .ok (.putfield 51, 3) := by decide +kernel
theorem dX13_alone_5 : decode cX13_alone 5 = .ok (.aload_n 0, 1) := by decide +kernel
theorem dX13_alone_6 : decode cX13_alone 6 = .ok (.iload_n 1, 1) := by decide +kernel
theorem dX13_alone_7 : decode cX13_alone 7 = .ok (.invokevirtual 355, 3) := by decide +kernel
theorem dX13_alone_10 : decode cX13_alone 10 = .ok (.ifCond .eq 16, 3) := by decide +kernel
theorem dX13_alone_13 : decode cX13_alone 13 = .ok (.aload_n 0, 1) := by decide +kernel
theorem dX13_alone_14 : decode cX13_alone 14 = .ok (.getfield 335, 3) := by decide +kernel
theorem dX13_alone_17 : decode cX13_alone 17 = .ok (.getfield 278, 3) := by decide +kernel
theorem dX13_alone_20 : decode cX13_alone 20 = .ok (.iload_n 1, 1) := by decide +kernel
theorem dX13_alone_21 : decode cX13_alone 21 = .ok (.iaload, 1) := by decide +kernel
theorem dX13_alone_22 : decode cX13_alone 22 = .ok (.iconst 1, 1) := by decide +kernel
theorem dX13_alone_23 : decode cX13_alone 23 = .ok (.if_icmp .eq 9, 3) := by decide +kernel
theorem dX13_alone_26 : decode cX13_alone 26 = .ok (.aload_n 0, 1) := by decide +kernel
theorem dX13_alone_27 : decode cX13_alone 27 = .ok (.iconst 1, 1) := by decide +kernel
theorem dX13_alone_28 : decode cX13_alone 28 = .ok (.invokevirtual 57, 3) := by decide +kernel
theorem dX13_alone_31 : decode cX13_alone 31 = .ok (.ireturn, 1) := by decide +kernel
theorem dX13_alone_32 : decode cX13_alone 32 = .ok (.aload_n 0, 1) := by decide +kernel
theorem dX13_alone_33 : decode cX13_alone 33 = .ok (.invokevirtual 420, 3) := by decide +kernel
theorem dX13_alone_36 : decode cX13_alone 36 = .ok (.iconst 0, 1) := by decide +kernel
theorem dX13_alone_37 : decode cX13_alone 37 = .ok (.istore_n 2, 1) := by decide +kernel
theorem dX13_alone_38 : decode cX13_alone 38 = .ok (.iconst 0, 1) := by decide +kernel
theorem dX13_alone_39 : decode cX13_alone 39 = .ok (.istore_n 3, 1) := by decide +kernel
theorem dX13_alone_40 : decode cX13_alone 40 = .ok (.iload_n 3, 1) := by decide +kernel
theorem dX13_alone_41 : decode cX13_alone 41 = .ok (.aload_n 0, 1) := by decide +kernel
theorem dX13_alone_42 : decode cX13_alone 42 = .ok (.getfield 335, 3) := by decide +kernel
theorem dX13_alone_45 : decode cX13_alone 45 = .ok (.getfield 288, 3) := by decide +kernel
theorem dX13_alone_48 : decode cX13_alone 48 = .ok (.if_icmp .ge 36, 3) := by decide +kernel
theorem dX13_alone_51 : decode cX13_alone 51 = .ok (.iload_n 2, 1) := by decide +kernel
theorem dX13_alone_52 : decode cX13_alone 52 = .ok (.aload_n 0, 1) := by decide +kernel
theorem dX13_alone_53 : decode cX13_alone 53 = .ok (.iload_n 3, 1) := by decide +kernel
theorem dX13_alone_54 : decode cX13_alone 54 = .ok (.invokevirtual 432, 3) := by decide +kernel
theorem dX13_alone_57 : decode cX13_alone 57 = .ok (.ifCond .eq 18, 3) := by decide +kernel
theorem dX13_alone_60 : decode cX13_alone 60 = .ok (.aload_n 0, 1) := by decide +kernel
theorem dX13_alone_61 : decode cX13_alone 61 = .ok (.iload_n 1, 1) := by decide +kernel
theorem dX13_alone_62 : decode cX13_alone 62 = .ok (.iload_n 3, 1) := by decide +kernel
theorem dX13_alone_63 : decode cX13_alone 63 = .ok (.invokevirtual 417, 3) := by decide +kernel
theorem dX13_alone_66 : decode cX13_alone 66 = .ok (.ifCond .eq 9, 3) := by decide +kernel
theorem dX13_alone_69 : decode cX13_alone 69 = .ok (.iconst 1, 1) := by decide +kernel
theorem dX13_alone_70 : decode cX13_alone 70 = .ok (.iload_n 3, 1) := by decide +kernel
theorem dX13_alone_71 : decode cX13_alone 71 = .ok (.ishl, 1) := by decide +kernel
theorem dX13_alone_72 : decode cX13_alone 72 = .ok (.goto 4, 3) := by decide +kernel
theorem dX13_alone_75 : decode cX13_alone 75 = .ok (.iconst 0, 1) := by decide +kernel
theorem dX13_alone_76 : decode cX13_alone 76 = .ok (.ior, 1) := by decide +kernel
theorem dX13_alone_77 : decode cX13_alone 77 = .ok (.istore_n 2, 1) := by decide +kernel
theorem dX13_alone_78 : decode cX13_alone 78 = .ok (.iinc 3 1, 3) := by decide +kernel
theorem dX13_alone_81 : decode cX13_alone 81 = .ok (.goto (-41), 3) := by decide +kernel
theorem dX13_alone_84 : decode cX13_alone 84 = .ok (.aload_n 0, 1) := by decide +kernel
theorem dX13_alone_85 : decode cX13_alone 85 = .ok (.aload_n 0, 1) := by decide +kernel
theorem dX13_alone_86 : decode cX13_alone 86 = .ok (.getfield 30, 3) := by decide +kernel
theorem dX13_alone_89 : decode cX13_alone 89 = .ok (.bipush 32, 2) := by decide +kernel
theorem dX13_alone_91 : decode cX13_alone 91 = .ok (.iload_n 1, 1) := by decide +kernel
theorem dX13_alone_92 : decode cX13_alone 92 = .ok (.imul, 1) := by decide +kernel
theorem dX13_alone_93 : decode cX13_alone 93 = .ok (.iload_n 2, 1) := by decide +kernel
theorem dX13_alone_94 : decode cX13_alone 94 = .ok (.iadd, 1) := by decide +kernel
theorem dX13_alone_95 : decode cX13_alone 95 = .ok (.iaload, 1) := by decide +kernel
theorem dX13_alone_96 : decode cX13_alone 96 = .ok (.invokevirtual 61, 3) := by decide +kernel
theorem dX13_alone_99 : decode cX13_alone 99 = .ok (.ireturn, 1) := by decide +kernel
theorem dX13_stuck_0 : decode cX13_stuck 0 = .ok (.aload_n 0, 1) := by decide +kernel
theorem dX13_stuck_1 : decode cX13_stuck 1 = .ok (.iconst 0, 1) := by decide +kernel
theorem dX13_stuck_2 : decode cX13_stuck 2 = .ok (.putfield 51, 3) := by decide +kernel
theorem dX13_stuck_5 : decode cX13_stuck 5 = .ok (.aload_n 0, 1) := by decide +kernel
theorem dX13_stuck_6 : decode cX13_stuck 6 = .ok (.getfield 335, 3) := by decide +kernel
theorem dX13_stuck_9 : decode cX13_stuck 9 = .ok (.ifnonnull 9, 3) := by decide +kernel
theorem dX13_stuck_12 : decode cX13_stuck 12 = .ok (.aload_n 0, 1) := by decide +kernel
theorem dX13_stuck_13 : decode cX13_stuck 13 = .ok (.iconst 1, 1) := by decide +kernel
theorem dX13_stuck_14 : decode cX13_stuck 14 = .ok (.invokevirtual 57, 3) := by decide +kernel
theorem dX13_stuck_17 : decode cX13_stuck 17 = .ok (.ireturn, 1) := by decide +kernel
theorem dX13_stuck_18 : decode cX13_stuck 18 = .ok (.iconst 0, 1) := by decide +kernel
theorem dX13_stuck_19 : decode cX13_stuck 19 = .ok (.istore_n 1, 1) := by decide +kernel
theorem dX13_stuck_20 : decode cX13_stuck 20 = .ok (.iconst 0, 1) := by decide +kernel
theorem dX13_stuck_21 : decode cX13_stuck 21 = .ok (.istore_n 2, 1) := by decide +kernel
theorem dX13_stuck_22 : decode cX13_stuck 22 = .ok (.iload_n 2, 1) := by decide +kernel
theorem dX13_stuck_23 : decode cX13_stuck 23 = .ok (.aload_n 0, 1) := by decide +kernel
theorem dX13_stuck_24 : decode cX13_stuck 24 = .ok (.getfield 335, 3) := by decide +kernel
theorem dX13_stuck_27 : decode cX13_stuck 27 = .ok (.getfield 288, 3) := by decide +kernel
theorem dX13_stuck_30 : decode cX13_stuck 30 = .ok (.if_icmp .ge 66, 3) := by decide +kernel
theorem dX13_stuck_33 : decode cX13_stuck 33 = .ok (.aload_n 0, 1) := by decide +kernel
theorem dX13_stuck_34 : decode cX13_stuck 34 = .ok (.iload_n 2, 1) := by decide +kernel
theorem dX13_stuck_35 : decode cX13_stuck 35 = .ok (.invokevirtual 432, 3) := by decide +kernel
theorem dX13_stuck_38 : decode cX13_stuck 38 = .ok (.istore_n 3, 1) := by decide +kernel
theorem dX13_stuck_39 : decode cX13_stuck 39 = .ok (.iconst 0, 1) := by decide +kernel
theorem dX13_stuck_40 : decode cX13_stuck 40 = .ok (.istore 4, 2) := by decide +kernel
theorem dX13_stuck_42 : decode cX13_stuck 42 = .ok (.iload 4, 2) := by decide +kernel
theorem dX13_stuck_44 : decode cX13_stuck 44 = .ok (.aload_n 0, 1) := by decide +kernel
theorem dX13_stuck_45 : decode cX13_stuck 45 = .ok (.getfield 335, 3) := by decide +kernel
theorem dX13_stuck_48 : decode cX13_stuck 48 = .ok (.getfield 199, 3) := by decide +kernel
theorem dX13_stuck_51 : decode cX13_stuck 51 = .ok (.if_icmp .ge 29, 3) := by decide +kernel
theorem dX13_stuck_54 : decode cX13_stuck 54 = .ok (.iload_n 3, 1) := by decide +kernel
theorem dX13_stuck_55 : decode cX13_stuck 55 = .ok (.ifCond .eq 17, 3) := by decide +kernel
theorem dX13_stuck_58 : decode cX13_stuck 58 = .ok (.aload_n 0, 1) := by decide +kernel
theorem dX13_stuck_59 : decode cX13_stuck 59 = .ok (.iload 4, 2) := by decide +kernel
theorem dX13_stuck_61 : decode cX13_stuck 61 = .ok (.iload_n 2, 1) := by decide +kernel
theorem dX13_stuck_62 : decode cX13_stuck 62 = .ok (.invokevirtual 417, 3) := by decide +kernel
theorem dX13_stuck_65 : decode cX13_stuck 65 = .ok (.ifCond .ne 7, 3) := by decide +kernel
theorem dX13_stuck_68 : decode cX13_stuck 68 = .ok (.iconst 1, 1) := by decide +kernel
theorem dX13_stuck_69 : decode cX13_stuck 69 = .ok (.goto 4, 3) := by decide +kernel
theorem dX13_stuck_72 : decode cX13_stuck 72 = .ok (.iconst 0, 1) := by decide +kernel
theorem dX13_stuck_73 : decode cX13_stuck 73 = .ok (.istore_n 3, 1) := by decide +kernel
theorem dX13_stuck_74 : decode cX13_stuck 74 = .ok (.iinc 4 1, 3) := by decide +kernel
theorem dX13_stuck_77 : decode cX13_stuck 77 = .ok (.goto (-35), 3) := by decide +kernel
theorem dX13_stuck_80 : decode cX13_stuck 80 = .ok (.iload_n 3, 1) := by decide +kernel
theorem dX13_stuck_81 : decode cX13_stuck 81 = .ok (.ifCond .eq 9, 3) := by decide +kernel
theorem dX13_stuck_84 : decode cX13_stuck 84 = .ok (.iload_n 1, 1) := by decide +kernel
theorem dX13_stuck_85 : decode cX13_stuck 85 = .ok (.iconst 1, 1) := by decide +kernel
theorem dX13_stuck_86 : decode cX13_stuck 86 = .ok (.iload_n 2, 1) := by decide +kernel
theorem dX13_stuck_87 : decode cX13_stuck 87 = .ok (.ishl, 1) := by decide +kernel
theorem dX13_stuck_88 : decode cX13_stuck 88 = .ok (.ior, 1) := by decide +kernel
theorem dX13_stuck_89 : decode cX13_stuck 89 = .ok (.istore_n 1, 1) := by decide +kernel
theorem dX13_stuck_90 : decode cX13_stuck 90 = .ok (.iinc 2 1, 3) := by decide +kernel
theorem dX13_stuck_93 : decode cX13_stuck 93 = .ok (.goto (-71), 3) := by decide +kernel
theorem dX13_stuck_96 : decode cX13_stuck 96 = .ok (.aload_n 0, 1) := by decide +kernel
theorem dX13_stuck_97 : decode cX13_stuck 97 = .ok (.iload_n 1, 1) := by decide +kernel
theorem dX13_stuck_98 : decode cX13_stuck 98 = .ok (.invokevirtual 61, 3) := by decide +kernel
theorem dX13_stuck_101 : decode cX13_stuck 101 = .ok (.ireturn, 1) := by decide +kernel
theorem dX13_hands_0 : decode cX13_hands 0 = .ok (.aload_n 0, 1) := by decide +kernel
theorem dX13_hands_1 : decode cX13_hands 1 = .ok (.iconst 0, 1) := by decide +kernel
theorem dX13_hands_2 : decode cX13_hands 2 = .ok (.putfield 51, 3) := by decide +kernel
theorem dX13_hands_5 : decode cX13_hands 5 = .ok (.aload_n 0, 1) := by decide +kernel
theorem dX13_hands_6 : decode cX13_hands 6 = .ok (.iload_n 1, 1) := by decide +kernel
theorem dX13_hands_7 : decode cX13_hands 7 = .ok (.invokevirtual 361, 3) := by decide +kernel
theorem dX13_hands_10 : decode cX13_hands 10 = .ok (.ifCond .ne 9, 3) := by decide +kernel
theorem dX13_hands_13 : decode cX13_hands 13 = .ok (.aload_n 0, 1) := by decide +kernel
theorem dX13_hands_14 : decode cX13_hands 14 = .ok (.iconst 1, 1) := by decide +kernel
theorem dX13_hands_15 : decode cX13_hands 15 = .ok (.invokevirtual 57, 3) := by decide +kernel
theorem dX13_hands_18 : decode cX13_hands 18 = .ok (.ireturn, 1) := by decide +kernel
theorem dX13_hands_19 : decode cX13_hands 19 = .ok (.aload_n 0, 1) := by decide +kernel
theorem dX13_hands_20 : decode cX13_hands 20 = .ok (.iload_n 1, 1) := by decide +kernel
theorem dX13_hands_21 : decode cX13_hands 21 = .ok (.invokevirtual 432, 3) := by decide +kernel
theorem dX13_hands_24 : decode cX13_hands 24 = .ok (.ifCond .ne 9, 3) := by decide +kernel
theorem dX13_hands_27 : decode cX13_hands 27 = .ok (.aload_n 0, 1) := by decide +kernel
theorem dX13_hands_28 : decode cX13_hands 28 = .ok (.iconst 0, 1) := by decide +kernel
theorem dX13_hands_29 : decode cX13_hands 29 = .ok (.invokevirtual 61, 3) := by decide +kernel
theorem dX13_hands_32 : decode cX13_hands 32 = .ok (.ireturn, 1) := by decide +kernel
theorem dX13_hands_33 : decode cX13_hands 33 = .ok (.aload_n 0, 1) := by decide +kernel
theorem dX13_hands_34 : decode cX13_hands 34 = .ok (.iload_n 1, 1) := by decide +kernel
theorem dX13_hands_35 : decode cX13_hands 35 = .ok (.aload_n 0, 1) := by decide +kernel
theorem dX13_hands_36 : decode cX13_hands 36 = .ok (.getfield 17, 3) := by decide +kernel
theorem dX13_hands_39 : decode cX13_hands 39 = .ok (.bipush 6, 2) := by decide +kernel
theorem dX13_hands_41 : decode cX13_hands 41 = .ok (.iload_n 1, 1) := by decide +kernel
theorem dX13_hands_42 : decode cX13_hands 42 = .ok (.iadd, 1) := by decide +kernel
theorem dX13_hands_43 : decode cX13_hands 43 = .ok (.iaload, 1) := by decide +kernel
theorem dX13_hands_44 : decode cX13_hands 44 = .ok (.invokevirtual 437, 3) := by decide +kernel
theorem dX13_hands_47 : decode cX13_hands 47 = .ok (.ifCond .eq 17, 3) := by decide +kernel
theorem dX13_hands_50 : decode cX13_hands 50 = .ok (.iconst 1, 1) := by decide +kernel
theorem dX13_hands_51 : decode cX13_hands 51 = .ok (.aload_n 0, 1) := by decide +kernel
theorem dX13_hands_52 : decode cX13_hands 52 = .ok (.getfield 17, 3) := by decide +kernel
theorem dX13_hands_55 : decode cX13_hands 55 = .ok (.bipush 6, 2) := by decide +kernel
theorem dX13_hands_57 : decode cX13_hands 57 = .ok (.iload_n 1, 1) := by decide +kernel
theorem dX13_hands_58 : decode cX13_hands 58 = .ok (.iadd, 1) := by decide +kernel
theorem dX13_hands_59 : decode cX13_hands 59 = .ok (.iaload, 1) := by decide +kernel
theorem dX13_hands_60 : decode cX13_hands 60 = .ok (.ishl, 1) := by decide +kernel
theorem dX13_hands_61 : decode cX13_hands 61 = .ok (.goto 4, 3) := by decide +kernel
theorem dX13_hands_64 : decode cX13_hands 64 = .ok (.iconst 0, 1) := by decide +kernel
theorem dX13_hands_65 : decode cX13_hands 65 = .ok (.istore_n 2, 1) := by decide +kernel
theorem dX13_hands_66 : decode cX13_hands 66 = .ok (.iconst 1, 1) := by decide +kernel
theorem dX13_hands_67 : decode cX13_hands 67 = .ok (.istore_n 3, 1) := by decide +kernel
theorem dX13_hands_68 : decode cX13_hands 68 = .ok (.iload_n 3, 1) := by decide +kernel
theorem dX13_hands_69 : decode cX13_hands 69 = .ok (.bipush 6, 2) := by decide +kernel
theorem dX13_hands_71 : decode cX13_hands 71 = .ok (.if_icmp .ge 38, 3) := by decide +kernel
theorem dX13_hands_74 : decode cX13_hands 74 = .ok (.aload_n 0, 1) := by decide +kernel
theorem dX13_hands_75 : decode cX13_hands 75 = .ok (.iload_n 1, 1) := by decide +kernel
theorem dX13_hands_76 : decode cX13_hands 76 = .ok (.iload_n 2, 1) := by decide +kernel
theorem dX13_hands_77 : decode cX13_hands 77 = .ok (.invokevirtual 440, 3) := by decide +kernel
theorem dX13_hands_80 : decode cX13_hands 80 = .ok (.istore_n 2, 1) := by decide +kernel
theorem dX13_hands_81 : decode cX13_hands 81 = .ok (.iload_n 2, 1) := by decide +kernel
theorem dX13_hands_82 : decode cX13_hands 82 = .ok (.aload_n 0, 1) := by decide +kernel
theorem dX13_hands_83 : decode cX13_hands 83 = .ok (.getfield 335, 3) := by decide +kernel
theorem dX13_hands_86 : decode cX13_hands 86 = .ok (.getfield 300, 3) := by decide +kernel
theorem dX13_hands_89 : decode cX13_hands 89 = .ok (.iload_n 1, 1) := by decide +kernel
theorem dX13_hands_90 : decode cX13_hands 90 = .ok (.iaload, 1) := by decide +kernel
theorem dX13_hands_91 : decode cX13_hands 91 = .ok (.invokestatic 400, 3) := by decide +kernel
theorem dX13_hands_94 : decode cX13_hands 94 = .ok (.ifCond .eq 9, 3) := by decide +kernel
theorem dX13_hands_97 : decode cX13_hands 97 = .ok (.aload_n 0, 1) := by decide +kernel
theorem dX13_hands_98 : decode cX13_hands 98 = .ok (.iload_n 3, 1) := by decide +kernel
theorem dX13_hands_99 : decode cX13_hands 99 = .ok (.invokevirtual 61, 3) := by decide +kernel
theorem dX13_hands_102 : decode cX13_hands 102 = .ok (.ireturn, 1) := by decide +kernel
theorem dX13_hands_103 : decode cX13_hands 103 = .ok (.iinc 3 1, 3) := by decide +kernel
theorem dX13_hands_106 : decode cX13_hands 106 = .ok (.goto (-38), 3) := by decide +kernel
theorem dX13_hands_109 : decode cX13_hands 109 = .ok (.aload_n 0, 1) := by decide +kernel
theorem dX13_hands_110 : decode cX13_hands 110 = .ok (.bipush (-2), 2) := by decide +kernel
theorem dX13_hands_112 : decode cX13_hands 112 = .ok (.invokevirtual 61, 3) := by decide +kernel
theorem dX13_hands_115 : decode cX13_hands 115 = .ok (.ireturn, 1) := by decide +kernel
theorem dX13_handedOn_0 : decode cX13_handedOn 0 = .ok (.iload_n 2, 1) := by decide +kernel
theorem dX13_handedOn_1 : decode cX13_handedOn 1 = .ok (.istore_n 3, 1) := by decide +kernel
theorem dX13_handedOn_2 : decode cX13_handedOn 2 = .ok (.iconst 0, 1) := by decide +kernel
theorem dX13_handedOn_3 : decode cX13_handedOn 3 = .ok (.istore 4, 2) := by decide +kernel
theorem dX13_handedOn_5 : decode cX13_handedOn 5 = .ok (.iload 4, 2) := by decide +kernel
theorem dX13_handedOn_7 : decode cX13_handedOn 7 = .ok (.aload_n 0, 1) := by decide +kernel
theorem dX13_handedOn_8 : decode cX13_handedOn 8 = .ok (.getfield 335, 3) := by decide +kernel
theorem dX13_handedOn_11 : decode cX13_handedOn 11 = .ok (.getfield 196, 3) := by decide +kernel
theorem dX13_handedOn_14 : decode cX13_handedOn 14 = .ok (.if_icmp .ge 78, 3) := by decide +kernel
theorem dX13_handedOn_17 : decode cX13_handedOn 17 = .ok (.aload_n 0, 1) := by decide +kernel
theorem dX13_handedOn_18 : decode cX13_handedOn 18 = .ok (.iload_n 1, 1) := by decide +kernel
theorem dX13_handedOn_19 : decode cX13_handedOn 19 = .ok (.iload 4, 2) := by decide +kernel
theorem dX13_handedOn_21 : decode cX13_handedOn 21 = .ok (.invokevirtual 437, 3) := by decide +kernel
theorem dX13_handedOn_24 : decode cX13_handedOn 24 = .ok (.ifCond .ne 6, 3) := by decide +kernel
theorem dX13_handedOn_27 : decode cX13_handedOn 27 = .ok (.goto 59, 3) := by decide +kernel
theorem dX13_handedOn_30 : decode cX13_handedOn 30 = .ok (.iconst 0, 1) := by decide +kernel
theorem dX13_handedOn_31 : decode cX13_handedOn 31 = .ok (.istore 5, 2) := by decide +kernel
theorem dX13_handedOn_33 : decode cX13_handedOn 33 = .ok (.iload 5, 2) := by decide +kernel
theorem dX13_handedOn_35 : decode cX13_handedOn 35 = .ok (.aload_n 0, 1) := by decide +kernel
theorem dX13_handedOn_36 : decode cX13_handedOn 36 = .ok (.getfield 335, 3) := by decide +kernel
theorem dX13_handedOn_39 : decode cX13_handedOn 39 = .ok (.getfield 196, 3) := by decide +kernel
theorem dX13_handedOn_42 : decode cX13_handedOn 42 = .ok (.if_icmp .ge 44, 3) := by decide +kernel
theorem dX13_handedOn_45 : decode cX13_handedOn 45 = .ok (.iload_n 2, 1) := by decide +kernel
theorem dX13_handedOn_46 : decode cX13_handedOn 46 = .ok (.iload 5, 2) := by decide +kernel
theorem dX13_handedOn_48 : decode cX13_handedOn 48 = .ok (.invokestatic 400, 3) := by decide +kernel
theorem dX13_handedOn_51 : decode cX13_handedOn 51 = .ok (.ifCond .eq 29, 3) := by decide +kernel
theorem dX13_handedOn_54 : decode cX13_handedOn 54 = .ok (.aload_n 0, 1) := by decide +kernel
theorem dX13_handedOn_55 : decode cX13_handedOn 55 = .ok (.getfield 335, 3) := by decide +kernel
theorem dX13_handedOn_58 : decode cX13_handedOn 58 = .ok (.getfield 257, 3) := by decide +kernel
theorem dX13_handedOn_61 : decode cX13_handedOn 61 = .ok (.bipush 6, 2) := by decide +kernel
theorem dX13_handedOn_63 : decode cX13_handedOn 63 = .ok (.iload 5, 2) := by decide +kernel
theorem dX13_handedOn_65 : decode cX13_handedOn 65 = .ok (.imul, 1) := by decide +kernel
theorem dX13_handedOn_66 : decode cX13_handedOn 66 = .ok (.iload 4, 2) := by decide +kernel
theorem dX13_handedOn_68 : decode cX13_handedOn 68 = .ok (.iadd, 1) := by decide +kernel
theorem dX13_handedOn_69 : decode cX13_handedOn 69 = .ok (.iaload, 1) := by decide +kernel
theorem dX13_handedOn_70 : decode cX13_handedOn 70 = .ok (.ifCond .le 10, 3) := by decide +kernel
theorem dX13_handedOn_73 : decode cX13_handedOn 73 = .ok (.iload_n 3, 1) := by decide +kernel
theorem dX13_handedOn_74 : decode cX13_handedOn 74 = .ok (.iconst 1, 1) := by decide +kernel
theorem dX13_handedOn_75 : decode cX13_handedOn 75 = .ok (.iload 4, 2) := by decide +kernel
theorem dX13_handedOn_77 : decode cX13_handedOn 77 = .ok (.ishl, 1) := by decide +kernel
theorem dX13_handedOn_78 : decode cX13_handedOn 78 = .ok (.ior, 1) := by decide +kernel
theorem dX13_handedOn_79 : decode cX13_handedOn 79 = .ok (.istore_n 3, 1) := by decide +kernel
theorem dX13_handedOn_80 : decode cX13_handedOn 80 = .ok (.iinc 5 1, 3) := by decide +kernel
theorem dX13_handedOn_83 : decode cX13_handedOn 83 = .ok (.goto (-50), 3) := by decide +kernel
theorem dX13_handedOn_86 : decode cX13_handedOn 86 = .ok (.iinc 4 1, 3) := by decide +kernel
theorem dX13_handedOn_89 : decode cX13_handedOn 89 = .ok (.goto (-84), 3) := by decide +kernel
theorem dX13_handedOn_92 : decode cX13_handedOn 92 = .ok (.iload_n 3, 1) := by decide +kernel
theorem dX13_handedOn_93 : decode cX13_handedOn 93 = .ok (.ireturn, 1) := by decide +kernel
theorem dX13_goneBy_0 : decode cX13_goneBy 0 = .ok (.iload_n 2, 1) := by decide +kernel
theorem dX13_goneBy_1 : decode cX13_goneBy 1 = .ok (.iconst 1, 1) := by decide +kernel
theorem dX13_goneBy_2 : decode cX13_goneBy 2 = .ok (.iload_n 3, 1) := by decide +kernel
theorem dX13_goneBy_3 : decode cX13_goneBy 3 = .ok (.ishl, 1) := by decide +kernel
theorem dX13_goneBy_4 : decode cX13_goneBy 4 = .ok (.iconst (-1), 1) := by decide +kernel
theorem dX13_goneBy_5 : decode cX13_goneBy 5 = .ok (.ixor, 1) := by decide +kernel
theorem dX13_goneBy_6 : decode cX13_goneBy 6 = .ok (.iand, 1) := by decide +kernel
theorem dX13_goneBy_7 : decode cX13_goneBy 7 = .ok (.istore 4, 2) := by decide +kernel
theorem dX13_goneBy_9 : decode cX13_goneBy 9 = .ok (.iload 4, 2) := by decide +kernel
theorem dX13_goneBy_11 : decode cX13_goneBy 11 = .ok (.ifCond .ne 13, 3) := by decide +kernel
theorem dX13_goneBy_14 : decode cX13_goneBy 14 = .ok (.aload_n 0, 1) := by decide +kernel
theorem dX13_goneBy_15 : decode cX13_goneBy 15 = .ok (.getfield 335, 3) := by decide +kernel
theorem dX13_goneBy_18 : decode cX13_goneBy 18 = .ok (.iload_n 1, 1) := by decide +kernel
theorem dX13_goneBy_19 : decode cX13_goneBy 19 = .ok (.iload_n 3, 1) := by decide +kernel
theorem dX13_goneBy_20 : decode cX13_goneBy 20 = .ok (.invokevirtual 410, 3) := by decide +kernel
theorem dX13_goneBy_23 : decode cX13_goneBy 23 = .ok (.ireturn, 1) := by decide +kernel
theorem dX13_goneBy_24 : decode cX13_goneBy 24 = .ok (.ldc_w 413, 3) := by decide +kernel
theorem dX13_goneBy_27 : decode cX13_goneBy 27 = .ok (.istore 5, 2) := by decide +kernel
theorem dX13_goneBy_29 : decode cX13_goneBy 29 = .ok (.iconst 0, 1) := by decide +kernel
theorem dX13_goneBy_30 : decode cX13_goneBy 30 = .ok (.istore 6, 2) := by decide +kernel
theorem dX13_goneBy_32 : decode cX13_goneBy 32 = .ok (.iload 6, 2) := by decide +kernel
theorem dX13_goneBy_34 : decode cX13_goneBy 34 = .ok (.aload_n 0, 1) := by decide +kernel
theorem dX13_goneBy_35 : decode cX13_goneBy 35 = .ok (.getfield 335, 3) := by decide +kernel
theorem dX13_goneBy_38 : decode cX13_goneBy 38 = .ok (.getfield 196, 3) := by decide +kernel
theorem dX13_goneBy_41 : decode cX13_goneBy 41 = .ok (.if_icmp .ge 50, 3) := by decide +kernel
theorem dX13_goneBy_44 : decode cX13_goneBy 44 = .ok (.iload 4, 2) := by decide +kernel
theorem dX13_goneBy_46 : decode cX13_goneBy 46 = .ok (.iload 6, 2) := by decide +kernel
theorem dX13_goneBy_48 : decode cX13_goneBy 48 = .ok (.invokestatic 400, 3) := by decide +kernel
theorem dX13_goneBy_51 : decode cX13_goneBy 51 = .ok (.ifCond .eq 34, 3) := by decide +kernel
theorem dX13_goneBy_54 : decode cX13_goneBy 54 = .ok (.iload 5, 2) := by decide +kernel
theorem dX13_goneBy_56 : decode cX13_goneBy 56 = .ok (.aload_n 0, 1) := by decide +kernel
theorem dX13_goneBy_57 : decode cX13_goneBy 57 = .ok (.getfield 42, 3) := by decide +kernel
theorem dX13_goneBy_60 : decode cX13_goneBy 60 = .ok (.bipush 6, 2) := by decide +kernel
theorem dX13_goneBy_62 : decode cX13_goneBy 62 = .ok (.iload 4, 2) := by decide +kernel
theorem dX13_goneBy_64 : decode cX13_goneBy 64 = .ok (.imul, 1) := by decide +kernel
theorem dX13_goneBy_65 : decode cX13_goneBy 65 = .ok (.iload 6, 2) := by decide +kernel
theorem dX13_goneBy_67 : decode cX13_goneBy 67 = .ok (.iadd, 1) := by decide +kernel
theorem dX13_goneBy_68 : decode cX13_goneBy 68 = .ok (.iaload, 1) := by decide +kernel
theorem dX13_goneBy_69 : decode cX13_goneBy 69 = .ok (.aload_n 0, 1) := by decide +kernel
theorem dX13_goneBy_70 : decode cX13_goneBy 70 = .ok (.getfield 335, 3) := by decide +kernel
theorem dX13_goneBy_73 : decode cX13_goneBy 73 = .ok (.iload 6, 2) := by decide +kernel
theorem dX13_goneBy_75 : decode cX13_goneBy 75 = .ok (.iload_n 3, 1) := by decide +kernel
theorem dX13_goneBy_76 : decode cX13_goneBy 76 = .ok (.invokevirtual 410, 3) := by decide +kernel
theorem dX13_goneBy_79 : decode cX13_goneBy 79 = .ok (.iadd, 1) := by decide +kernel
theorem dX13_goneBy_80 : decode cX13_goneBy 80 = .ok (.invokestatic 349, 3) := by decide +kernel
theorem dX13_goneBy_83 : decode cX13_goneBy 83 = .ok (.istore 5, 2) := by decide +kernel
theorem dX13_goneBy_85 : decode cX13_goneBy 85 = .ok (.iinc 6 1, 3) := by decide +kernel
theorem dX13_goneBy_88 : decode cX13_goneBy 88 = .ok (.goto (-56), 3) := by decide +kernel
theorem dX13_goneBy_91 : decode cX13_goneBy 91 = .ok (.iload 5, 2) := by decide +kernel
theorem dX13_goneBy_93 : decode cX13_goneBy 93 = .ok (.ireturn, 1) := by decide +kernel
theorem dX13_round_0 : decode cX13_round 0 = .ok (.aload_n 0, 1) := by decide +kernel
theorem dX13_round_1 : decode cX13_round 1 = .ok (.iconst 0, 1) := by decide +kernel
theorem dX13_round_2 : decode cX13_round 2 = .ok (.putfield 51, 3) := by decide +kernel
theorem dX13_round_5 : decode cX13_round 5 = .ok (.aload_n 0, 1) := by decide +kernel
theorem dX13_round_6 : decode cX13_round 6 = .ok (.iload_n 1, 1) := by decide +kernel
theorem dX13_round_7 : decode cX13_round 7 = .ok (.invokevirtual 352, 3) := by decide +kernel
theorem dX13_round_10 : decode cX13_round 10 = .ok (.ifCond .ne 9, 3) := by decide +kernel
theorem dX13_round_13 : decode cX13_round 13 = .ok (.aload_n 0, 1) := by decide +kernel
theorem dX13_round_14 : decode cX13_round 14 = .ok (.iconst 1, 1) := by decide +kernel
theorem dX13_round_15 : decode cX13_round 15 = .ok (.invokevirtual 57, 3) := by decide +kernel
theorem dX13_round_18 : decode cX13_round 18 = .ok (.ireturn, 1) := by decide +kernel
theorem dX13_round_19 : decode cX13_round 19 = .ok (.iconst 0, 1) := by decide +kernel
theorem dX13_round_20 : decode cX13_round 20 = .ok (.istore_n 2, 1) := by decide +kernel
theorem dX13_round_21 : decode cX13_round 21 = .ok (.iconst 0, 1) := by decide +kernel
theorem dX13_round_22 : decode cX13_round 22 = .ok (.istore_n 3, 1) := by decide +kernel
theorem dX13_round_23 : decode cX13_round 23 = .ok (.iload_n 3, 1) := by decide +kernel
theorem dX13_round_24 : decode cX13_round 24 = .ok (.aload_n 0, 1) := by decide +kernel
theorem dX13_round_25 : decode cX13_round 25 = .ok (.getfield 335, 3) := by decide +kernel
theorem dX13_round_28 : decode cX13_round 28 = .ok (.getfield 196, 3) := by decide +kernel
theorem dX13_round_31 : decode cX13_round 31 = .ok (.if_icmp .ge 39, 3) := by decide +kernel
theorem dX13_round_34 : decode cX13_round 34 = .ok (.iload_n 2, 1) := by decide +kernel
theorem dX13_round_35 : decode cX13_round 35 = .ok (.iload_n 3, 1) := by decide +kernel
theorem dX13_round_36 : decode cX13_round 36 = .ok (.iload_n 1, 1) := by decide +kernel
theorem dX13_round_37 : decode cX13_round 37 = .ok (.if_icmp .eq 24, 3) := by decide +kernel
theorem dX13_round_40 : decode cX13_round 40 = .ok (.aload_n 0, 1) := by decide +kernel
theorem dX13_round_41 : decode cX13_round 41 = .ok (.getfield 335, 3) := by decide +kernel
theorem dX13_round_44 : decode cX13_round 44 = .ok (.iload_n 1, 1) := by decide +kernel
theorem dX13_round_45 : decode cX13_round 45 = .ok (.iload_n 3, 1) := by decide +kernel
theorem dX13_round_46 : decode cX13_round 46 = .ok (.invokevirtual 410, 3) := by decide +kernel
theorem dX13_round_49 : decode cX13_round 49 = .ok (.ldc_w 413, 3) := by decide +kernel
theorem dX13_round_52 : decode cX13_round 52 = .ok (.if_icmp .ge 9, 3) := by decide +kernel
theorem dX13_round_55 : decode cX13_round 55 = .ok (.iconst 1, 1) := by decide +kernel
theorem dX13_round_56 : decode cX13_round 56 = .ok (.iload_n 3, 1) := by decide +kernel
theorem dX13_round_57 : decode cX13_round 57 = .ok (.ishl, 1) := by decide +kernel
theorem dX13_round_58 : decode cX13_round 58 = .ok (.goto 4, 3) := by decide +kernel
theorem dX13_round_61 : decode cX13_round 61 = .ok (.iconst 0, 1) := by decide +kernel
theorem dX13_round_62 : decode cX13_round 62 = .ok (.ior, 1) := by decide +kernel
theorem dX13_round_63 : decode cX13_round 63 = .ok (.istore_n 2, 1) := by decide +kernel
theorem dX13_round_64 : decode cX13_round 64 = .ok (.iinc 3 1, 3) := by decide +kernel
theorem dX13_round_67 : decode cX13_round 67 = .ok (.goto (-44), 3) := by decide +kernel
theorem dX13_round_70 : decode cX13_round 70 = .ok (.iconst 1, 1) := by decide +kernel
theorem dX13_round_71 : decode cX13_round 71 = .ok (.istore_n 3, 1) := by decide +kernel
theorem dX13_round_72 : decode cX13_round 72 = .ok (.iload_n 3, 1) := by decide +kernel
theorem dX13_round_73 : decode cX13_round 73 = .ok (.iload_n 2, 1) := by decide +kernel
theorem dX13_round_74 : decode cX13_round 74 = .ok (.if_icmp .gt 67, 3) := by decide +kernel
theorem dX13_round_77 : decode cX13_round 77 = .ok (.iconst 0, 1) := by decide +kernel
theorem dX13_round_78 : decode cX13_round 78 = .ok (.istore 4, 2) := by decide +kernel
theorem dX13_round_80 : decode cX13_round 80 = .ok (.iload 4, 2) := by decide +kernel
theorem dX13_round_82 : decode cX13_round 82 = .ok (.aload_n 0, 1) := by decide +kernel
theorem dX13_round_83 : decode cX13_round 83 = .ok (.getfield 335, 3) := by decide +kernel
theorem dX13_round_86 : decode cX13_round 86 = .ok (.getfield 196, 3) := by decide +kernel
theorem dX13_round_89 : decode cX13_round 89 = .ok (.if_icmp .ge 46, 3) := by decide +kernel
theorem dX13_round_92 : decode cX13_round 92 = .ok (.iload_n 3, 1) := by decide +kernel
theorem dX13_round_93 : decode cX13_round 93 = .ok (.iload_n 2, 1) := by decide +kernel
theorem dX13_round_94 : decode cX13_round 94 = .ok (.iconst (-1), 1) := by decide +kernel
theorem dX13_round_95 : decode cX13_round 95 = .ok (.ixor, 1) := by decide +kernel
theorem dX13_round_96 : decode cX13_round 96 = .ok (.iand, 1) := by decide +kernel
theorem dX13_round_97 : decode cX13_round 97 = .ok (.ifCond .ne 32, 3) := by decide +kernel
theorem dX13_round_100 : decode cX13_round 100 = .ok (.iload_n 3, 1) := by decide +kernel
theorem dX13_round_101 : decode cX13_round 101 = .ok (.iload 4, 2) := by decide +kernel
theorem dX13_round_103 : decode cX13_round 103 = .ok (.invokestatic 400, 3) := by decide +kernel
theorem dX13_round_106 : decode cX13_round 106 = .ok (.ifCond .eq 23, 3) := by decide +kernel
theorem dX13_round_109 : decode cX13_round 109 = .ok (.aload_n 0, 1) := by decide +kernel
theorem dX13_round_110 : decode cX13_round 110 = .ok (.getfield 42, 3) := by decide +kernel
theorem dX13_round_113 : decode cX13_round 113 = .ok (.bipush 6, 2) := by decide +kernel
theorem dX13_round_115 : decode cX13_round 115 = .ok (.iload_n 3, 1) := by decide +kernel
theorem dX13_round_116 : decode cX13_round 116 = .ok (.imul, 1) := by decide +kernel
theorem dX13_round_117 : decode cX13_round 117 = .ok (.iload 4, 2) := by decide +kernel
theorem dX13_round_119 : decode cX13_round 119 = .ok (.iadd, 1) := by decide +kernel
theorem dX13_round_120 : decode cX13_round 120 = .ok (.aload_n 0, 1) := by decide +kernel
theorem dX13_round_121 : decode cX13_round 121 = .ok (.iload_n 1, 1) := by decide +kernel
theorem dX13_round_122 : decode cX13_round 122 = .ok (.iload_n 3, 1) := by decide +kernel
theorem dX13_round_123 : decode cX13_round 123 = .ok (.iload 4, 2) := by decide +kernel
theorem dX13_round_125 : decode cX13_round 125 = .ok (.invokevirtual 443, 3) := by decide +kernel
theorem dX13_round_128 : decode cX13_round 128 = .ok (.iastore, 1) := by decide +kernel
theorem dX13_round_129 : decode cX13_round 129 = .ok (.iinc 4 1, 3) := by decide +kernel
theorem dX13_round_132 : decode cX13_round 132 = .ok (.goto (-52), 3) := by decide +kernel
theorem dX13_round_135 : decode cX13_round 135 = .ok (.iinc 3 1, 3) := by decide +kernel
theorem dX13_round_138 : decode cX13_round 138 = .ok (.goto (-66), 3) := by decide +kernel
theorem dX13_round_141 : decode cX13_round 141 = .ok (.iload_n 2, 1) := by decide +kernel
theorem dX13_round_142 : decode cX13_round 142 = .ok (.ifCond .ne 7, 3) := by decide +kernel
theorem dX13_round_145 : decode cX13_round 145 = .ok (.iconst 0, 1) := by decide +kernel
theorem dX13_round_146 : decode cX13_round 146 = .ok (.goto 6, 3) := by decide +kernel
theorem dX13_round_149 : decode cX13_round 149 = .ok (.ldc_w 413, 3) := by decide +kernel
theorem dX13_round_152 : decode cX13_round 152 = .ok (.istore_n 3, 1) := by decide +kernel
theorem dX13_round_153 : decode cX13_round 153 = .ok (.iconst 0, 1) := by decide +kernel
theorem dX13_round_154 : decode cX13_round 154 = .ok (.istore 4, 2) := by decide +kernel
theorem dX13_round_156 : decode cX13_round 156 = .ok (.iload 4, 2) := by decide +kernel
theorem dX13_round_158 : decode cX13_round 158 = .ok (.aload_n 0, 1) := by decide +kernel
theorem dX13_round_159 : decode cX13_round 159 = .ok (.getfield 335, 3) := by decide +kernel
theorem dX13_round_162 : decode cX13_round 162 = .ok (.getfield 196, 3) := by decide +kernel
theorem dX13_round_165 : decode cX13_round 165 = .ok (.if_icmp .ge 46, 3) := by decide +kernel
theorem dX13_round_168 : decode cX13_round 168 = .ok (.iload_n 2, 1) := by decide +kernel
theorem dX13_round_169 : decode cX13_round 169 = .ok (.iload 4, 2) := by decide +kernel
theorem dX13_round_171 : decode cX13_round 171 = .ok (.invokestatic 400, 3) := by decide +kernel
theorem dX13_round_174 : decode cX13_round 174 = .ok (.ifCond .eq 31, 3) := by decide +kernel
theorem dX13_round_177 : decode cX13_round 177 = .ok (.iload_n 3, 1) := by decide +kernel
theorem dX13_round_178 : decode cX13_round 178 = .ok (.aload_n 0, 1) := by decide +kernel
theorem dX13_round_179 : decode cX13_round 179 = .ok (.getfield 42, 3) := by decide +kernel
theorem dX13_round_182 : decode cX13_round 182 = .ok (.bipush 6, 2) := by decide +kernel
theorem dX13_round_184 : decode cX13_round 184 = .ok (.iload_n 2, 1) := by decide +kernel
theorem dX13_round_185 : decode cX13_round 185 = .ok (.imul, 1) := by decide +kernel
theorem dX13_round_186 : decode cX13_round 186 = .ok (.iload 4, 2) := by decide +kernel
theorem dX13_round_188 : decode cX13_round 188 = .ok (.iadd, 1) := by decide +kernel
theorem dX13_round_189 : decode cX13_round 189 = .ok (.iaload, 1) := by decide +kernel
theorem dX13_round_190 : decode cX13_round 190 = .ok (.aload_n 0, 1) := by decide +kernel
theorem dX13_round_191 : decode cX13_round 191 = .ok (.getfield 335, 3) := by decide +kernel
theorem dX13_round_194 : decode cX13_round 194 = .ok (.iload 4, 2) := by decide +kernel
theorem dX13_round_196 : decode cX13_round 196 = .ok (.iload_n 1, 1) := by decide +kernel
theorem dX13_round_197 : decode cX13_round 197 = .ok (.invokevirtual 410, 3) := by decide +kernel
theorem dX13_round_200 : decode cX13_round 200 = .ok (.iadd, 1) := by decide +kernel
theorem dX13_round_201 : decode cX13_round 201 = .ok (.invokestatic 349, 3) := by decide +kernel
theorem dX13_round_204 : decode cX13_round 204 = .ok (.istore_n 3, 1) := by decide +kernel
theorem dX13_round_205 : decode cX13_round 205 = .ok (.iinc 4 1, 3) := by decide +kernel
theorem dX13_round_208 : decode cX13_round 208 = .ok (.goto (-52), 3) := by decide +kernel
theorem dX13_round_211 : decode cX13_round 211 = .ok (.aload_n 0, 1) := by decide +kernel
theorem dX13_round_212 : decode cX13_round 212 = .ok (.iload_n 3, 1) := by decide +kernel
theorem dX13_round_213 : decode cX13_round 213 = .ok (.invokevirtual 61, 3) := by decide +kernel
theorem dX13_round_216 : decode cX13_round 216 = .ok (.ireturn, 1) := by decide +kernel
theorem dX13_pieces_0 : decode cX13_pieces 0 = .ok (.aload_n 0, 1) := by decide +kernel
theorem dX13_pieces_1 : decode cX13_pieces 1 = .ok (.iconst 0, 1) := by decide +kernel
theorem dX13_pieces_2 : decode cX13_pieces 2 = .ok (.putfield 51, 3) := by decide +kernel
theorem dX13_pieces_5 : decode cX13_pieces 5 = .ok (.aload_n 0, 1) := by decide +kernel
theorem dX13_pieces_6 : decode cX13_pieces 6 = .ok (.getfield 335, 3) := by decide +kernel
theorem dX13_pieces_9 : decode cX13_pieces 9 = .ok (.ifnonnull 9, 3) := by decide +kernel
theorem dX13_pieces_12 : decode cX13_pieces 12 = .ok (.aload_n 0, 1) := by decide +kernel
theorem dX13_pieces_13 : decode cX13_pieces 13 = .ok (.iconst 1, 1) := by decide +kernel
theorem dX13_pieces_14 : decode cX13_pieces 14 = .ok (.invokevirtual 57, 3) := by decide +kernel
theorem dX13_pieces_17 : decode cX13_pieces 17 = .ok (.ireturn, 1) := by decide +kernel
theorem dX13_pieces_18 : decode cX13_pieces 18 = .ok (.iconst 0, 1) := by decide +kernel
theorem dX13_pieces_19 : decode cX13_pieces 19 = .ok (.istore_n 1, 1) := by decide +kernel
theorem dX13_pieces_20 : decode cX13_pieces 20 = .ok (.iconst 0, 1) := by decide +kernel
theorem dX13_pieces_21 : decode cX13_pieces 21 = .ok (.istore_n 2, 1) := by decide +kernel
theorem dX13_pieces_22 : decode cX13_pieces 22 = .ok (.iload_n 2, 1) := by decide +kernel
theorem dX13_pieces_23 : decode cX13_pieces 23 = .ok (.aload_n 0, 1) := by decide +kernel
theorem dX13_pieces_24 : decode cX13_pieces 24 = .ok (.getfield 335, 3) := by decide +kernel
theorem dX13_pieces_27 : decode cX13_pieces 27 = .ok (.getfield 288, 3) := by decide +kernel
theorem dX13_pieces_30 : decode cX13_pieces 30 = .ok (.if_icmp .ge 17, 3) := by decide +kernel
theorem dX13_pieces_33 : decode cX13_pieces 33 = .ok (.iload_n 1, 1) := by decide +kernel
theorem dX13_pieces_34 : decode cX13_pieces 34 = .ok (.aload_n 0, 1) := by decide +kernel
theorem dX13_pieces_35 : decode cX13_pieces 35 = .ok (.iload_n 2, 1) := by decide +kernel
theorem dX13_pieces_36 : decode cX13_pieces 36 = .ok (.invokevirtual 364, 3) := by decide +kernel
theorem dX13_pieces_39 : decode cX13_pieces 39 = .ok (.iadd, 1) := by decide +kernel
theorem dX13_pieces_40 : decode cX13_pieces 40 = .ok (.istore_n 1, 1) := by decide +kernel
theorem dX13_pieces_41 : decode cX13_pieces 41 = .ok (.iinc 2 1, 3) := by decide +kernel
theorem dX13_pieces_44 : decode cX13_pieces 44 = .ok (.goto (-22), 3) := by decide +kernel
theorem dX13_pieces_47 : decode cX13_pieces 47 = .ok (.aload_n 0, 1) := by decide +kernel
theorem dX13_pieces_48 : decode cX13_pieces 48 = .ok (.iload_n 1, 1) := by decide +kernel
theorem dX13_pieces_49 : decode cX13_pieces 49 = .ok (.invokevirtual 61, 3) := by decide +kernel
theorem dX13_pieces_52 : decode cX13_pieces 52 = .ok (.ireturn, 1) := by decide +kernel
theorem dX13_isPrint_0 : decode cX13_isPrint 0 = .ok (.aload_n 0, 1) := by decide +kernel
theorem dX13_isPrint_1 : decode cX13_isPrint 1 = .ok (.getfield 45, 3) := by decide +kernel
theorem dX13_isPrint_4 : decode cX13_isPrint 4 = .ok (.iload_n 1, 1) := by decide +kernel
theorem dX13_isPrint_5 : decode cX13_isPrint 5 = .ok (.iaload, 1) := by decide +kernel
theorem dX13_isPrint_6 : decode cX13_isPrint 6 = .ok (.istore_n 2, 1) := by decide +kernel
theorem dX13_isPrint_7 : decode cX13_isPrint 7 = .ok (.aload_n 0, 1) := by decide +kernel
theorem dX13_isPrint_8 : decode cX13_isPrint 8 = .ok (.getfield 335, 3) := by decide +kernel
theorem dX13_isPrint_11 : decode cX13_isPrint 11 = .ok (.getfield 278, 3) := by decide +kernel
theorem dX13_isPrint_14 : decode cX13_isPrint 14 = .ok (.iload_n 2, 1) := by decide +kernel
theorem dX13_isPrint_15 : decode cX13_isPrint 15 = .ok (.iaload, 1) := by decide +kernel
theorem dX13_isPrint_16 : decode cX13_isPrint 16 = .ok (.iconst 2, 1) := by decide +kernel
theorem dX13_isPrint_17 : decode cX13_isPrint 17 = .ok (.if_icmp .eq 44, 3) := by decide +kernel
theorem dX13_isPrint_20 : decode cX13_isPrint 20 = .ok (.aload_n 0, 1) := by decide +kernel
theorem dX13_isPrint_21 : decode cX13_isPrint 21 = .ok (.getfield 335, 3) := by decide +kernel
theorem dX13_isPrint_24 : decode cX13_isPrint 24 = .ok (.getfield 281, 3) := by decide +kernel
theorem dX13_isPrint_27 : decode cX13_isPrint 27 = .ok (.iload_n 2, 1) := by decide +kernel
theorem dX13_isPrint_28 : decode cX13_isPrint 28 = .ok (.iaload, 1) := by decide +kernel
theorem dX13_isPrint_29 : decode cX13_isPrint 29 = .ok (.aload_n 0, 1) := by decide +kernel
theorem dX13_isPrint_30 : decode cX13_isPrint 30 = .ok (.getfield 335, 3) := by decide +kernel
theorem dX13_isPrint_33 : decode cX13_isPrint 33 = .ok (.getfield 321, 3) := by decide +kernel
theorem dX13_isPrint_36 : decode cX13_isPrint 36 = .ok (.iload_n 1, 1) := by decide +kernel
theorem dX13_isPrint_37 : decode cX13_isPrint 37 = .ok (.iaload, 1) := by decide +kernel
theorem dX13_isPrint_38 : decode cX13_isPrint 38 = .ok (.if_icmp .eq 23, 3) := by decide +kernel
theorem dX13_isPrint_41 : decode cX13_isPrint 41 = .ok (.aload_n 0, 1) := by decide +kernel
theorem dX13_isPrint_42 : decode cX13_isPrint 42 = .ok (.getfield 335, 3) := by decide +kernel
theorem dX13_isPrint_45 : decode cX13_isPrint 45 = .ok (.iload_n 2, 1) := by decide +kernel
theorem dX13_isPrint_46 : decode cX13_isPrint 46 = .ok (.invokevirtual 446, 3) := by decide +kernel
theorem dX13_isPrint_49 : decode cX13_isPrint 49 = .ok (.aload_n 0, 1) := by decide +kernel
theorem dX13_isPrint_50 : decode cX13_isPrint 50 = .ok (.getfield 335, 3) := by decide +kernel
theorem dX13_isPrint_53 : decode cX13_isPrint 53 = .ok (.getfield 324, 3) := by decide +kernel
theorem dX13_isPrint_56 : decode cX13_isPrint 56 = .ok (.iload_n 1, 1) := by decide +kernel
theorem dX13_isPrint_57 : decode cX13_isPrint 57 = .ok (.iaload, 1) := by decide +kernel
theorem dX13_isPrint_58 : decode cX13_isPrint 58 = .ok (.if_icmp .eq 5, 3) := by decide +kernel
theorem dX13_isPrint_61 : decode cX13_isPrint 61 = .ok (.iconst 0, 1) := by decide +kernel
theorem dX13_isPrint_62 : decode cX13_isPrint 62 = .ok (.ireturn, 1) := by decide +kernel
theorem dX13_isPrint_63 : decode cX13_isPrint 63 = .ok (.iconst 0, 1) := by decide +kernel
theorem dX13_isPrint_64 : decode cX13_isPrint 64 = .ok (.istore_n 3, 1) := by decide +kernel
theorem dX13_isPrint_65 : decode cX13_isPrint 65 = .ok (.iload_n 3, 1) := by decide +kernel
theorem dX13_isPrint_66 : decode cX13_isPrint 66 = .ok (.iload_n 1, 1) := by decide +kernel
theorem dX13_isPrint_67 : decode cX13_isPrint 67 = .ok (.if_icmp .ge 42, 3) := by decide +kernel
theorem dX13_isPrint_70 : decode cX13_isPrint 70 = .ok (.aload_n 0, 1) := by decide +kernel
theorem dX13_isPrint_71 : decode cX13_isPrint 71 = .ok (.getfield 45, 3) := by decide +kernel
theorem dX13_isPrint_74 : decode cX13_isPrint 74 = .ok (.iload_n 3, 1) := by decide +kernel
theorem dX13_isPrint_75 : decode cX13_isPrint 75 = .ok (.iaload, 1) := by decide +kernel
theorem dX13_isPrint_76 : decode cX13_isPrint 76 = .ok (.iload_n 2, 1) := by decide +kernel
theorem dX13_isPrint_77 : decode cX13_isPrint 77 = .ok (.if_icmp .ne 26, 3) := by decide +kernel
theorem dX13_isPrint_80 : decode cX13_isPrint 80 = .ok (.aload_n 0, 1) := by decide +kernel
theorem dX13_isPrint_81 : decode cX13_isPrint 81 = .ok (.getfield 335, 3) := by decide +kernel
theorem dX13_isPrint_84 : decode cX13_isPrint 84 = .ok (.getfield 326, 3) := by decide +kernel
theorem dX13_isPrint_87 : decode cX13_isPrint 87 = .ok (.iload_n 3, 1) := by decide +kernel
theorem dX13_isPrint_88 : decode cX13_isPrint 88 = .ok (.iaload, 1) := by decide +kernel
theorem dX13_isPrint_89 : decode cX13_isPrint 89 = .ok (.aload_n 0, 1) := by decide +kernel
theorem dX13_isPrint_90 : decode cX13_isPrint 90 = .ok (.getfield 335, 3) := by decide +kernel
theorem dX13_isPrint_93 : decode cX13_isPrint 93 = .ok (.getfield 326, 3) := by decide +kernel
theorem dX13_isPrint_96 : decode cX13_isPrint 96 = .ok (.iload_n 1, 1) := by decide +kernel
theorem dX13_isPrint_97 : decode cX13_isPrint 97 = .ok (.iaload, 1) := by decide +kernel
theorem dX13_isPrint_98 : decode cX13_isPrint 98 = .ok (.if_icmp .ne 5, 3) := by decide +kernel
theorem dX13_isPrint_101 : decode cX13_isPrint 101 = .ok (.iconst 0, 1) := by decide +kernel
theorem dX13_isPrint_102 : decode cX13_isPrint 102 = .ok (.ireturn, 1) := by decide +kernel
theorem dX13_isPrint_103 : decode cX13_isPrint 103 = .ok (.iinc 3 1, 3) := by decide +kernel
theorem dX13_isPrint_106 : decode cX13_isPrint 106 = .ok (.goto (-41), 3) := by decide +kernel
theorem dX13_isPrint_109 : decode cX13_isPrint 109 = .ok (.iconst 1, 1) := by decide +kernel
theorem dX13_isPrint_110 : decode cX13_isPrint 110 = .ok (.ireturn, 1) := by decide +kernel
theorem dX13_fitting_0 : decode cX13_fitting 0 = .ok (.aload_n 0, 1) := by decide +kernel
theorem dX13_fitting_1 : decode cX13_fitting 1 = .ok (.iconst 0, 1) := by decide +kernel
theorem dX13_fitting_2 : decode cX13_fitting 2 = .ok (.putfield 449, 3) := by decide +kernel
theorem dX13_fitting_5 : decode cX13_fitting 5 = .ok (.iconst 0, 1) := by decide +kernel
theorem dX13_fitting_6 : decode cX13_fitting 6 = .ok (.istore_n 1, 1) := by decide +kernel
theorem dX13_fitting_7 : decode cX13_fitting 7 = .ok (.iload_n 1, 1) := by decide +kernel
theorem dX13_fitting_8 : decode cX13_fitting 8 = .ok (.bipush 30, 2) := by decide +kernel
theorem dX13_fitting_10 : decode cX13_fitting 10 = .ok (.if_icmp .ge 16, 3) := by decide +kernel
theorem dX13_fitting_13 : decode cX13_fitting 13 = .ok (.aload_n 0, 1) := by decide +kernel
theorem dX13_fitting_14 : decode cX13_fitting 14 = .ok (.getfield 48, 3) := by decide +kernel
theorem dX13_fitting_17 : decode cX13_fitting 17 = .ok (.iload_n 1, 1) := by decide +kernel
theorem dX13_fitting_18 : decode cX13_fitting 18 = .ok (.iconst 0, 1) := by decide +kernel
theorem dX13_fitting_19 : decode cX13_fitting 19 = .ok (.iastore, 1) := by decide +kernel
theorem dX13_fitting_20 : decode cX13_fitting 20 = .ok (.iinc 1 1, 3) := by decide +kernel
theorem dX13_fitting_23 : decode cX13_fitting 23 = .ok (.goto (-16), 3) := by decide +kernel
theorem dX13_fitting_26 : decode cX13_fitting 26 = .ok (.iconst 0, 1) := by decide +kernel
theorem dX13_fitting_27 : decode cX13_fitting 27 = .ok (.istore_n 1, 1) := by decide +kernel
theorem dX13_fitting_28 : decode cX13_fitting 28 = .ok (.aload_n 0, 1) := by decide +kernel
theorem dX13_fitting_29 : decode cX13_fitting 29 = .ok (.getfield 45, 3) := by decide +kernel
theorem dX13_fitting_32 : decode cX13_fitting 32 = .ok (.iconst 0, 1) := by decide +kernel
theorem dX13_fitting_33 : decode cX13_fitting 33 = .ok (.iconst (-1), 1) := by decide +kernel
theorem dX13_fitting_34 : decode cX13_fitting 34 = .ok (.iastore, 1) := by decide +kernel
theorem dX13_fitting_35 : decode cX13_fitting 35 = .ok (.iload_n 1, 1) := by decide +kernel
theorem dX13_fitting_36 : decode cX13_fitting 36 = .ok (.ifCond .lt 150, 3) := by decide +kernel
theorem dX13_fitting_39 : decode cX13_fitting 39 = .ok (.aload_n 0, 1) := by decide +kernel
theorem dX13_fitting_40 : decode cX13_fitting 40 = .ok (.getfield 45, 3) := by decide +kernel
theorem dX13_fitting_43 : decode cX13_fitting 43 = .ok (.iload_n 1, 1) := by decide +kernel
theorem dX13_fitting_44 : decode cX13_fitting 44 = .ok (.dup2, 1) := by decide +kernel
theorem dX13_fitting_45 : decode cX13_fitting 45 = .ok (.iaload, 1) := by decide +kernel
theorem dX13_fitting_46 : decode cX13_fitting 46 = .ok (.iconst 1, 1) := by decide +kernel
theorem dX13_fitting_47 : decode cX13_fitting 47 = .ok (.iadd, 1) := by decide +kernel
theorem dX13_fitting_48 : decode cX13_fitting 48 = .ok (.iastore, 1) := by decide +kernel
theorem dX13_fitting_49 : decode cX13_fitting 49 = .ok (.aload_n 0, 1) := by decide +kernel
theorem dX13_fitting_50 : decode cX13_fitting 50 = .ok (.getfield 45, 3) := by decide +kernel
theorem dX13_fitting_53 : decode cX13_fitting 53 = .ok (.iload_n 1, 1) := by decide +kernel
theorem dX13_fitting_54 : decode cX13_fitting 54 = .ok (.iaload, 1) := by decide +kernel
theorem dX13_fitting_55 : decode cX13_fitting 55 = .ok (.aload_n 0, 1) := by decide +kernel
theorem dX13_fitting_56 : decode cX13_fitting 56 = .ok (.getfield 335, 3) := by decide +kernel
theorem dX13_fitting_59 : decode cX13_fitting 59 = .ok (.getfield 199, 3) := by decide +kernel
theorem dX13_fitting_62 : decode cX13_fitting 62 = .ok (.if_icmp .ge 24, 3) := by decide +kernel
theorem dX13_fitting_65 : decode cX13_fitting 65 = .ok (.aload_n 0, 1) := by decide +kernel
theorem dX13_fitting_66 : decode cX13_fitting 66 = .ok (.iload_n 1, 1) := by decide +kernel
theorem dX13_fitting_67 : decode cX13_fitting 67 = .ok (.invokevirtual 452, 3) := by decide +kernel
theorem dX13_fitting_70 : decode cX13_fitting 70 = .ok (.ifCond .ne 16, 3) := by decide +kernel
theorem dX13_fitting_73 : decode cX13_fitting 73 = .ok (.aload_n 0, 1) := by decide +kernel
theorem dX13_fitting_74 : decode cX13_fitting 74 = .ok (.getfield 45, 3) := by decide +kernel
theorem dX13_fitting_77 : decode cX13_fitting 77 = .ok (.iload_n 1, 1) := by decide +kernel
theorem dX13_fitting_78 : decode cX13_fitting 78 = .ok (.dup2, 1) := by decide +kernel
theorem dX13_fitting_79 : decode cX13_fitting 79 = .ok (.iaload, 1) := by decide +kernel
theorem dX13_fitting_80 : decode cX13_fitting 80 = .ok (.iconst 1, 1) := by decide +kernel
theorem dX13_fitting_81 : decode cX13_fitting 81 = .ok (.iadd, 1) := by decide +kernel
theorem dX13_fitting_82 : decode cX13_fitting 82 = .ok (.iastore, 1) := by decide +kernel
theorem dX13_fitting_83 : decode cX13_fitting 83 = .ok (.goto (-34), 3) := by decide +kernel
theorem dX13_fitting_86 : decode cX13_fitting 86 = .ok (.aload_n 0, 1) := by decide +kernel
theorem dX13_fitting_87 : decode cX13_fitting 87 = .ok (.getfield 45, 3) := by decide +kernel
theorem dX13_fitting_90 : decode cX13_fitting 90 = .ok (.iload_n 1, 1) := by decide +kernel
theorem dX13_fitting_91 : decode cX13_fitting 91 = .ok (.iaload, 1) := by decide +kernel
theorem dX13_fitting_92 : decode cX13_fitting 92 = .ok (.aload_n 0, 1) := by decide +kernel
theorem dX13_fitting_93 : decode cX13_fitting 93 = .ok (.getfield 335, 3) := by decide +kernel
theorem dX13_fitting_96 : decode cX13_fitting 96 = .ok (.getfield 199, 3) := by decide +kernel
theorem dX13_fitting_99 : decode cX13_fitting 99 = .ok (.if_icmp .lt 9, 3) := by decide +kernel
theorem dX13_fitting_102 : decode cX13_fitting 102 = .ok (.iinc 1 (-1), 3) := by decide +kernel
theorem dX13_fitting_105 : decode cX13_fitting 105 = .ok (.goto (-70), 3) := by decide +kernel
theorem dX13_fitting_108 : decode cX13_fitting 108 = .ok (.iload_n 1, 1) := by decide +kernel
theorem dX13_fitting_109 : decode cX13_fitting 109 = .ok (.iconst 1, 1) := by decide +kernel
theorem dX13_fitting_110 : decode cX13_fitting 110 = .ok (.iadd, 1) := by decide +kernel
theorem dX13_fitting_111 : decode cX13_fitting 111 = .ok (.aload_n 0, 1) := by decide +kernel
theorem dX13_fitting_112 : decode cX13_fitting 112 = .ok (.getfield 335, 3) := by decide +kernel
theorem dX13_fitting_115 : decode cX13_fitting 115 = .ok (.getfield 316, 3) := by decide +kernel
theorem dX13_fitting_118 : decode cX13_fitting 118 = .ok (.if_icmp .ge 16, 3) := by decide +kernel
theorem dX13_fitting_121 : decode cX13_fitting 121 = .ok (.iinc 1 1, 3) := by decide +kernel
theorem dX13_fitting_124 : decode cX13_fitting 124 = .ok (.aload_n 0, 1) := by decide +kernel
theorem dX13_fitting_125 : decode cX13_fitting 125 = .ok (.getfield 45, 3) := by decide +kernel
theorem dX13_fitting_128 : decode cX13_fitting 128 = .ok (.iload_n 1, 1) := by decide +kernel
theorem dX13_fitting_129 : decode cX13_fitting 129 = .ok (.iconst (-1), 1) := by decide +kernel
theorem dX13_fitting_130 : decode cX13_fitting 130 = .ok (.iastore, 1) := by decide +kernel
theorem dX13_fitting_131 : decode cX13_fitting 131 = .ok (.goto (-96), 3) := by decide +kernel
theorem dX13_fitting_134 : decode cX13_fitting 134 = .ok (.aload_n 0, 1) := by decide +kernel
theorem dX13_fitting_135 : decode cX13_fitting 135 = .ok (.dup, 1) := by decide +kernel
theorem dX13_fitting_136 : decode cX13_fitting 136 = .ok (.getfield 449, 3) := by decide +kernel
theorem dX13_fitting_139 : decode cX13_fitting 139 = .ok (.iconst 1, 1) := by decide +kernel
theorem dX13_fitting_140 : decode cX13_fitting 140 = .ok (.iadd, 1) := by decide +kernel
theorem dX13_fitting_141 : decode cX13_fitting 141 = .ok (.putfield 449, 3) := by decide +kernel
theorem dX13_fitting_144 : decode cX13_fitting 144 = .ok (.iconst 0, 1) := by decide +kernel
theorem dX13_fitting_145 : decode cX13_fitting 145 = .ok (.istore_n 2, 1) := by decide +kernel
theorem dX13_fitting_146 : decode cX13_fitting 146 = .ok (.iload_n 2, 1) := by decide +kernel
theorem dX13_fitting_147 : decode cX13_fitting 147 = .ok (.aload_n 0, 1) := by decide +kernel
theorem dX13_fitting_148 : decode cX13_fitting 148 = .ok (.getfield 335, 3) := by decide +kernel
theorem dX13_fitting_151 : decode cX13_fitting 151 = .ok (.getfield 316, 3) := by decide +kernel
theorem dX13_fitting_154 : decode cX13_fitting 154 = .ok (.if_icmp .ge 29, 3) := by decide +kernel
theorem dX13_fitting_157 : decode cX13_fitting 157 = .ok (.aload_n 0, 1) := by decide +kernel
theorem dX13_fitting_158 : decode cX13_fitting 158 = .ok (.getfield 48, 3) := by decide +kernel
theorem dX13_fitting_161 : decode cX13_fitting 161 = .ok (.bipush 6, 2) := by decide +kernel
theorem dX13_fitting_163 : decode cX13_fitting 163 = .ok (.iload_n 2, 1) := by decide +kernel
theorem dX13_fitting_164 : decode cX13_fitting 164 = .ok (.imul, 1) := by decide +kernel
theorem dX13_fitting_165 : decode cX13_fitting 165 = .ok (.aload_n 0, 1) := by decide +kernel
theorem dX13_fitting_166 : decode cX13_fitting 166 = .ok (.getfield 45, 3) := by decide +kernel
theorem dX13_fitting_169 : decode cX13_fitting 169 = .ok (.iload_n 2, 1) := by decide +kernel
theorem dX13_fitting_170 : decode cX13_fitting 170 = .ok (.iaload, 1) := by decide +kernel
theorem dX13_fitting_171 : decode cX13_fitting 171 = .ok (.iadd, 1) := by decide +kernel
theorem dX13_fitting_172 : decode cX13_fitting 172 = .ok (.dup2, 1) := by decide +kernel
theorem dX13_fitting_173 : decode cX13_fitting 173 = .ok (.iaload, 1) := by decide +kernel
theorem dX13_fitting_174 : decode cX13_fitting 174 = .ok (.iconst 1, 1) := by decide +kernel
theorem dX13_fitting_175 : decode cX13_fitting 175 = .ok (.iadd, 1) := by decide +kernel
theorem dX13_fitting_176 : decode cX13_fitting 176 = .ok (.iastore, 1) := by decide +kernel
theorem dX13_fitting_177 : decode cX13_fitting 177 = .ok (.iinc 2 1, 3) := by decide +kernel
theorem dX13_fitting_180 : decode cX13_fitting 180 = .ok (.goto (-34), 3) := by decide +kernel
theorem dX13_fitting_183 : decode cX13_fitting 183 = .ok (.goto (-148), 3) := by decide +kernel
theorem dX13_fitting_186 : decode cX13_fitting 186 = .ok (.return_, 1) := by decide +kernel
theorem dX13_refusesPrints_0 : decode cX13_refusesPrints 0 = .ok (.aload_n 0, 1) := by decide +kernel
theorem dX13_refusesPrints_1 : decode cX13_refusesPrints 1 = .ok (.getfield 335, 3) := by decide +kernel
theorem dX13_refusesPrints_4 : decode cX13_refusesPrints 4 = .ok (.ifnonnull 7, 3) := by decide +kernel
theorem dX13_refusesPrints_7 : decode cX13_refusesPrints 7 = .ok (.iconst 1, 1) := by decide +kernel
theorem dX13_refusesPrints_8 : decode cX13_refusesPrints 8 = .ok (.goto 19, 3) := by decide +kernel
theorem dX13_refusesPrints_11 : decode cX13_refusesPrints 11 = .ok (.aload_n 0, 1) := by decide +kernel
theorem dX13_refusesPrints_12 : decode cX13_refusesPrints 12 = .ok (.getfield 335, 3) := by decide +kernel
theorem dX13_refusesPrints_15 : decode cX13_refusesPrints 15 = .ok (.getfield 316, 3) := by decide +kernel
theorem dX13_refusesPrints_18 : decode cX13_refusesPrints 18 = .ok (.ifCond .ne 8, 3) := by decide +kernel
theorem dX13_refusesPrints_21 : decode cX13_refusesPrints 21 = .ok (.bipush 6, 2) := by decide +kernel
theorem dX13_refusesPrints_23 : decode cX13_refusesPrints 23 = .ok (.goto 4, 3) := by decide +kernel
theorem dX13_refusesPrints_26 : decode cX13_refusesPrints 26 = .ok (.iconst 0, 1) := by decide +kernel
theorem dX13_refusesPrints_27 : decode cX13_refusesPrints 27 = .ok (.ireturn, 1) := by decide +kernel
theorem dX13_fits_0 : decode cX13_fits 0 = .ok (.aload_n 0, 1) := by decide +kernel
theorem dX13_fits_1 : decode cX13_fits 1 = .ok (.iconst 0, 1) := by decide +kernel
theorem dX13_fits_2 : decode cX13_fits 2 = .ok (.putfield 51, 3) := by decide +kernel
theorem dX13_fits_5 : decode cX13_fits 5 = .ok (.aload_n 0, 1) := by decide +kernel
theorem dX13_fits_6 : decode cX13_fits 6 = .ok (.invokevirtual 455, 3) := by decide +kernel
theorem dX13_fits_9 : decode cX13_fits 9 = .ok (.istore_n 1, 1) := by decide +kernel
theorem dX13_fits_10 : decode cX13_fits 10 = .ok (.iload_n 1, 1) := by decide +kernel
theorem dX13_fits_11 : decode cX13_fits 11 = .ok (.ifCond .le 9, 3) := by decide +kernel
theorem dX13_fits_14 : decode cX13_fits 14 = .ok (.aload_n 0, 1) := by decide +kernel
theorem dX13_fits_15 : decode cX13_fits 15 = .ok (.iload_n 1, 1) := by decide +kernel
theorem dX13_fits_16 : decode cX13_fits 16 = .ok (.invokevirtual 57, 3) := by decide +kernel
theorem dX13_fits_19 : decode cX13_fits 19 = .ok (.ireturn, 1) := by decide +kernel
theorem dX13_fits_20 : decode cX13_fits 20 = .ok (.aload_n 0, 1) := by decide +kernel
theorem dX13_fits_21 : decode cX13_fits 21 = .ok (.invokevirtual 458, 3) := by decide +kernel
theorem dX13_fits_24 : decode cX13_fits 24 = .ok (.aload_n 0, 1) := by decide +kernel
theorem dX13_fits_25 : decode cX13_fits 25 = .ok (.aload_n 0, 1) := by decide +kernel
theorem dX13_fits_26 : decode cX13_fits 26 = .ok (.getfield 449, 3) := by decide +kernel
theorem dX13_fits_29 : decode cX13_fits 29 = .ok (.invokevirtual 61, 3) := by decide +kernel
theorem dX13_fits_32 : decode cX13_fits 32 = .ok (.ireturn, 1) := by decide +kernel
theorem dX13_isPrinted_0 : decode cX13_isPrinted 0 = .ok (.aload_n 0, 1) := by decide +kernel
theorem dX13_isPrinted_1 : decode cX13_isPrinted 1 = .ok (.getfield 335, 3) := by decide +kernel
theorem dX13_isPrinted_4 : decode cX13_isPrinted 4 = .ok (.ifnull 22, 3) := by decide +kernel
theorem dX13_isPrinted_7 : decode cX13_isPrinted 7 = .ok (.iload_n 1, 1) := by decide +kernel
theorem dX13_isPrinted_8 : decode cX13_isPrinted 8 = .ok (.ifCond .lt 18, 3) := by decide +kernel
theorem dX13_isPrinted_11 : decode cX13_isPrinted 11 = .ok (.iload_n 1, 1) := by decide +kernel
theorem dX13_isPrinted_12 : decode cX13_isPrinted 12 = .ok (.aload_n 0, 1) := by decide +kernel
theorem dX13_isPrinted_13 : decode cX13_isPrinted 13 = .ok (.getfield 335, 3) := by decide +kernel
theorem dX13_isPrinted_16 : decode cX13_isPrinted 16 = .ok (.getfield 316, 3) := by decide +kernel
theorem dX13_isPrinted_19 : decode cX13_isPrinted 19 = .ok (.if_icmp .ge 7, 3) := by decide +kernel
theorem dX13_isPrinted_22 : decode cX13_isPrinted 22 = .ok (.iconst 1, 1) := by decide +kernel
theorem dX13_isPrinted_23 : decode cX13_isPrinted 23 = .ok (.goto 4, 3) := by decide +kernel
theorem dX13_isPrinted_26 : decode cX13_isPrinted 26 = .ok (.iconst 0, 1) := by decide +kernel
theorem dX13_isPrinted_27 : decode cX13_isPrinted 27 = .ok (.ireturn, 1) := by decide +kernel
theorem dX13_couldBe_0 : decode cX13_couldBe 0 = .ok (.iconst 0, 1) := by decide +kernel
theorem dX13_couldBe_1 : decode cX13_couldBe 1 = .ok (.istore_n 2, 1) := by decide +kernel
theorem dX13_couldBe_2 : decode cX13_couldBe 2 = .ok (.iconst 0, 1) := by decide +kernel
theorem dX13_couldBe_3 : decode cX13_couldBe 3 = .ok (.istore_n 3, 1) := by decide +kernel
theorem dX13_couldBe_4 : decode cX13_couldBe 4 = .ok (.iload_n 3, 1) := by decide +kernel
theorem dX13_couldBe_5 : decode cX13_couldBe 5 = .ok (.aload_n 0, 1) := by decide +kernel
theorem dX13_couldBe_6 : decode cX13_couldBe 6 = .ok (.getfield 335, 3) := by decide +kernel
theorem dX13_couldBe_9 : decode cX13_couldBe 9 = .ok (.getfield 199, 3) := by decide +kernel
theorem dX13_couldBe_12 : decode cX13_couldBe 12 = .ok (.if_icmp .ge 33, 3) := by decide +kernel
theorem dX13_couldBe_15 : decode cX13_couldBe 15 = .ok (.iload_n 2, 1) := by decide +kernel
theorem dX13_couldBe_16 : decode cX13_couldBe 16 = .ok (.aload_n 0, 1) := by decide +kernel
theorem dX13_couldBe_17 : decode cX13_couldBe 17 = .ok (.getfield 48, 3) := by decide +kernel
theorem dX13_couldBe_20 : decode cX13_couldBe 20 = .ok (.bipush 6, 2) := by decide +kernel
theorem dX13_couldBe_22 : decode cX13_couldBe 22 = .ok (.iload_n 1, 1) := by decide +kernel
theorem dX13_couldBe_23 : decode cX13_couldBe 23 = .ok (.imul, 1) := by decide +kernel
theorem dX13_couldBe_24 : decode cX13_couldBe 24 = .ok (.iload_n 3, 1) := by decide +kernel
theorem dX13_couldBe_25 : decode cX13_couldBe 25 = .ok (.iadd, 1) := by decide +kernel
theorem dX13_couldBe_26 : decode cX13_couldBe 26 = .ok (.iaload, 1) := by decide +kernel
theorem dX13_couldBe_27 : decode cX13_couldBe 27 = .ok (.ifCond .le 9, 3) := by decide +kernel
theorem dX13_couldBe_30 : decode cX13_couldBe 30 = .ok (.iconst 1, 1) := by decide +kernel
theorem dX13_couldBe_31 : decode cX13_couldBe 31 = .ok (.iload_n 3, 1) := by decide +kernel
theorem dX13_couldBe_32 : decode cX13_couldBe 32 = .ok (.ishl, 1) := by decide +kernel
theorem dX13_couldBe_33 : decode cX13_couldBe 33 = .ok (.goto 4, 3) := by decide +kernel
theorem dX13_couldBe_36 : decode cX13_couldBe 36 = .ok (.iconst 0, 1) := by decide +kernel
theorem dX13_couldBe_37 : decode cX13_couldBe 37 = .ok (.ior, 1) := by decide +kernel
theorem dX13_couldBe_38 : decode cX13_couldBe 38 = .ok (.istore_n 2, 1) := by decide +kernel
theorem dX13_couldBe_39 : decode cX13_couldBe 39 = .ok (.iinc 3 1, 3) := by decide +kernel
theorem dX13_couldBe_42 : decode cX13_couldBe 42 = .ok (.goto (-38), 3) := by decide +kernel
theorem dX13_couldBe_45 : decode cX13_couldBe 45 = .ok (.iload_n 2, 1) := by decide +kernel
theorem dX13_couldBe_46 : decode cX13_couldBe 46 = .ok (.ireturn, 1) := by decide +kernel
theorem dX13_could_0 : decode cX13_could 0 = .ok (.aload_n 0, 1) := by decide +kernel
theorem dX13_could_1 : decode cX13_could 1 = .ok (.iconst 0, 1) := by decide +kernel
theorem dX13_could_2 : decode cX13_could 2 = .ok (.putfield 51, 3) := by decide +kernel
theorem dX13_could_5 : decode cX13_could 5 = .ok (.aload_n 0, 1) := by decide +kernel
theorem dX13_could_6 : decode cX13_could 6 = .ok (.iload_n 1, 1) := by decide +kernel
theorem dX13_could_7 : decode cX13_could 7 = .ok (.invokevirtual 461, 3) := by decide +kernel
theorem dX13_could_10 : decode cX13_could 10 = .ok (.ifCond .ne 9, 3) := by decide +kernel
theorem dX13_could_13 : decode cX13_could 13 = .ok (.aload_n 0, 1) := by decide +kernel
theorem dX13_could_14 : decode cX13_could 14 = .ok (.iconst 1, 1) := by decide +kernel
theorem dX13_could_15 : decode cX13_could 15 = .ok (.invokevirtual 57, 3) := by decide +kernel
theorem dX13_could_18 : decode cX13_could 18 = .ok (.ireturn, 1) := by decide +kernel
theorem dX13_could_19 : decode cX13_could 19 = .ok (.aload_n 0, 1) := by decide +kernel
theorem dX13_could_20 : decode cX13_could 20 = .ok (.invokevirtual 458, 3) := by decide +kernel
theorem dX13_could_23 : decode cX13_could 23 = .ok (.aload_n 0, 1) := by decide +kernel
theorem dX13_could_24 : decode cX13_could 24 = .ok (.aload_n 0, 1) := by decide +kernel
theorem dX13_could_25 : decode cX13_could 25 = .ok (.iload_n 1, 1) := by decide +kernel
theorem dX13_could_26 : decode cX13_could 26 = .ok (.invokevirtual 464, 3) := by decide +kernel
theorem dX13_could_29 : decode cX13_could 29 = .ok (.invokevirtual 61, 3) := by decide +kernel
theorem dX13_could_32 : decode cX13_could 32 = .ok (.ireturn, 1) := by decide +kernel
theorem dX13_surely_0 : decode cX13_surely 0 = .ok (.aload_n 0, 1) := by decide +kernel
theorem dX13_surely_1 : decode cX13_surely 1 = .ok (.iconst 0, 1) := by decide +kernel
theorem dX13_surely_2 : decode cX13_surely 2 = .ok (.putfield 51, 3) := by decide +kernel
theorem dX13_surely_5 : decode cX13_surely 5 = .ok (.aload_n 0, 1) := by decide +kernel
theorem dX13_surely_6 : decode cX13_surely 6 = .ok (.iload_n 1, 1) := by decide +kernel
theorem dX13_surely_7 : decode cX13_surely 7 = .ok (.invokevirtual 461, 3) := by decide +kernel
theorem dX13_surely_10 : decode cX13_surely 10 = .ok (.ifCond .ne 9, 3) := by decide +kernel
theorem dX13_surely_13 : decode cX13_surely 13 = .ok (.aload_n 0, 1) := by decide +kernel
theorem dX13_surely_14 : decode cX13_surely 14 = .ok (.iconst 1, 1) := by decide +kernel
theorem dX13_surely_15 : decode cX13_surely 15 = .ok (.invokevirtual 57, 3) := by decide +kernel
theorem dX13_surely_18 : decode cX13_surely 18 = .ok (.ireturn, 1) := by decide +kernel
theorem dX13_surely_19 : decode cX13_surely 19 = .ok (.aload_n 0, 1) := by decide +kernel
theorem dX13_surely_20 : decode cX13_surely 20 = .ok (.invokevirtual 458, 3) := by decide +kernel
theorem dX13_surely_23 : decode cX13_surely 23 = .ok (.iconst 0, 1) := by decide +kernel
theorem dX13_surely_24 : decode cX13_surely 24 = .ok (.istore_n 2, 1) := by decide +kernel
theorem dX13_surely_25 : decode cX13_surely 25 = .ok (.iload_n 2, 1) := by decide +kernel
theorem dX13_surely_26 : decode cX13_surely 26 = .ok (.aload_n 0, 1) := by decide +kernel
theorem dX13_surely_27 : decode cX13_surely 27 = .ok (.getfield 335, 3) := by decide +kernel
theorem dX13_surely_30 : decode cX13_surely 30 = .ok (.getfield 199, 3) := by decide +kernel
theorem dX13_surely_33 : decode cX13_surely 33 = .ok (.if_icmp .ge 26, 3) := by decide +kernel
theorem dX13_surely_36 : decode cX13_surely 36 = .ok (.aload_n 0, 1) := by decide +kernel
theorem dX13_surely_37 : decode cX13_surely 37 = .ok (.iload_n 1, 1) := by decide +kernel
theorem dX13_surely_38 : decode cX13_surely 38 = .ok (.invokevirtual 464, 3) := by decide +kernel
theorem dX13_surely_41 : decode cX13_surely 41 = .ok (.iconst 1, 1) := by decide +kernel
theorem dX13_surely_42 : decode cX13_surely 42 = .ok (.iload_n 2, 1) := by decide +kernel
theorem dX13_surely_43 : decode cX13_surely 43 = .ok (.ishl, 1) := by decide +kernel
theorem dX13_surely_44 : decode cX13_surely 44 = .ok (.if_icmp .ne 9, 3) := by decide +kernel
theorem dX13_surely_47 : decode cX13_surely 47 = .ok (.aload_n 0, 1) := by decide +kernel
theorem dX13_surely_48 : decode cX13_surely 48 = .ok (.iload_n 2, 1) := by decide +kernel
theorem dX13_surely_49 : decode cX13_surely 49 = .ok (.invokevirtual 61, 3) := by decide +kernel
theorem dX13_surely_52 : decode cX13_surely 52 = .ok (.ireturn, 1) := by decide +kernel
theorem dX13_surely_53 : decode cX13_surely 53 = .ok (.iinc 2 1, 3) := by decide +kernel
theorem dX13_surely_56 : decode cX13_surely 56 = .ok (.goto (-31), 3) := by decide +kernel
theorem dX13_surely_59 : decode cX13_surely 59 = .ok (.aload_n 0, 1) := by decide +kernel
theorem dX13_surely_60 : decode cX13_surely 60 = .ok (.bipush (-2), 2) := by decide +kernel
theorem dX13_surely_62 : decode cX13_surely 62 = .ok (.invokevirtual 61, 3) := by decide +kernel
theorem dX13_surely_65 : decode cX13_surely 65 = .ok (.ireturn, 1) := by decide +kernel
theorem dX13_ask_0 : decode cX13_ask 0 = .ok (.aload_n 0, 1) := by decide +kernel
theorem dX13_ask_1 : decode cX13_ask 1 = .ok (.iconst 0, 1) := by decide +kernel
theorem dX13_ask_2 : decode cX13_ask 2 = .ok (.putfield 51, 3) := by decide +kernel
theorem dX13_ask_5 : decode cX13_ask 5 = .ok (.aload_n 0, 1) := by decide +kernel
theorem dX13_ask_6 : decode cX13_ask 6 = .ok (.invokevirtual 455, 3) := by decide +kernel
theorem dX13_ask_9 : decode cX13_ask 9 = .ok (.istore_n 1, 1) := by decide +kernel
theorem dX13_ask_10 : decode cX13_ask 10 = .ok (.iload_n 1, 1) := by decide +kernel
theorem dX13_ask_11 : decode cX13_ask 11 = .ok (.ifCond .le 9, 3) := by decide +kernel
theorem dX13_ask_14 : decode cX13_ask 14 = .ok (.aload_n 0, 1) := by decide +kernel
theorem dX13_ask_15 : decode cX13_ask 15 = .ok (.iload_n 1, 1) := by decide +kernel
theorem dX13_ask_16 : decode cX13_ask 16 = .ok (.invokevirtual 57, 3) := by decide +kernel
theorem dX13_ask_19 : decode cX13_ask 19 = .ok (.ireturn, 1) := by decide +kernel
theorem dX13_ask_20 : decode cX13_ask 20 = .ok (.aload_n 0, 1) := by decide +kernel
theorem dX13_ask_21 : decode cX13_ask 21 = .ok (.invokevirtual 458, 3) := by decide +kernel
theorem dX13_ask_24 : decode cX13_ask 24 = .ok (.bipush (-2), 2) := by decide +kernel
theorem dX13_ask_26 : decode cX13_ask 26 = .ok (.istore_n 2, 1) := by decide +kernel
theorem dX13_ask_27 : decode cX13_ask 27 = .ok (.iconst 0, 1) := by decide +kernel
theorem dX13_ask_28 : decode cX13_ask 28 = .ok (.istore_n 3, 1) := by decide +kernel
theorem dX13_ask_29 : decode cX13_ask 29 = .ok (.iconst 0, 1) := by decide +kernel
theorem dX13_ask_30 : decode cX13_ask 30 = .ok (.istore 4, 2) := by decide +kernel
theorem dX13_ask_32 : decode cX13_ask 32 = .ok (.iload 4, 2) := by decide +kernel
theorem dX13_ask_34 : decode cX13_ask 34 = .ok (.aload_n 0, 1) := by decide +kernel
theorem dX13_ask_35 : decode cX13_ask 35 = .ok (.getfield 335, 3) := by decide +kernel
theorem dX13_ask_38 : decode cX13_ask 38 = .ok (.getfield 316, 3) := by decide +kernel
theorem dX13_ask_41 : decode cX13_ask 41 = .ok (.if_icmp .ge 94, 3) := by decide +kernel
theorem dX13_ask_44 : decode cX13_ask 44 = .ok (.aload_n 0, 1) := by decide +kernel
theorem dX13_ask_45 : decode cX13_ask 45 = .ok (.getfield 449, 3) := by decide +kernel
theorem dX13_ask_48 : decode cX13_ask 48 = .ok (.ifCond .le 87, 3) := by decide +kernel
theorem dX13_ask_51 : decode cX13_ask 51 = .ok (.iconst 0, 1) := by decide +kernel
theorem dX13_ask_52 : decode cX13_ask 52 = .ok (.istore 5, 2) := by decide +kernel
theorem dX13_ask_54 : decode cX13_ask 54 = .ok (.iconst 0, 1) := by decide +kernel
theorem dX13_ask_55 : decode cX13_ask 55 = .ok (.istore 6, 2) := by decide +kernel
theorem dX13_ask_57 : decode cX13_ask 57 = .ok (.iload 6, 2) := by decide +kernel
theorem dX13_ask_59 : decode cX13_ask 59 = .ok (.aload_n 0, 1) := by decide +kernel
theorem dX13_ask_60 : decode cX13_ask 60 = .ok (.getfield 335, 3) := by decide +kernel
theorem dX13_ask_63 : decode cX13_ask 63 = .ok (.getfield 199, 3) := by decide +kernel
theorem dX13_ask_66 : decode cX13_ask 66 = .ok (.if_icmp .ge 42, 3) := by decide +kernel
theorem dX13_ask_69 : decode cX13_ask 69 = .ok (.aload_n 0, 1) := by decide +kernel
theorem dX13_ask_70 : decode cX13_ask 70 = .ok (.getfield 48, 3) := by decide +kernel
