theorem dX2_init_0 : decode cX2_init 0 = .ok (.aload_n 0, 1) := by decide +kernel
theorem dX2_init_1 : decode cX2_init 1 = .ok (.invokespecial 3, 3) := by decide +kernel
theorem dX2_init_4 : decode cX2_init 4 = .ok (.aload_n 0, 1) := by decide +kernel
theorem dX2_init_5 : decode cX2_init 5 = .ok (.iconst 0, 1) := by decide +kernel
theorem dX2_init_6 : decode cX2_init 6 = .ok (.putfield 9, 3) := by decide +kernel
theorem dX2_init_9 : decode cX2_init 9 = .ok (.aload_n 0, 1) := by decide +kernel
theorem dX2_init_10 : decode cX2_init 10 = .ok (.bipush 36, 2) := by decide +kernel
theorem dX2_init_12 : decode cX2_init 12 = .ok (.newarray .int, 2) := by decide +kernel
theorem dX2_init_14 : decode cX2_init 14 = .ok (.putfield 15, 3) := by decide +kernel
theorem dX2_init_17 : decode cX2_init 17 = .ok (.aload_n 0, 1) := by decide +kernel
theorem dX2_init_18 : decode cX2_init 18 = .ok (.bipush 36, 2) := by decide +kernel
theorem dX2_init_20 : decode cX2_init 20 = .ok (.newarray .int, 2) := by decide +kernel
theorem dX2_init_22 : decode cX2_init 22 = .ok (.putfield 19, 3) := by decide +kernel
theorem dX2_init_25 : decode cX2_init 25 = .ok (.aload_n 0, 1) := by decide +kernel
theorem dX2_init_26 : decode cX2_init 26 = .ok (.iconst 0, 1) := by decide +kernel
theorem dX2_init_27 : decode cX2_init 27 = .ok (.putfield 22, 3) := by decide +kernel
theorem dX2_init_30 : decode cX2_init 30 = .ok (.return_, 1) := by decide +kernel
theorem dX2_clear_0 : decode cX2_clear 0 = .ok (.aload_n 0, 1) := by decide +kernel
theorem dX2_clear_1 : decode cX2_clear 1 = .ok (.iconst 0, 1) := by decide +kernel
theorem dX2_clear_2 : decode cX2_clear 2 = .ok (.putfield 9, 3) := by decide +kernel
theorem dX2_clear_5 : decode cX2_clear 5 = .ok (.aload_n 0, 1) := by decide +kernel
theorem dX2_clear_6 : decode cX2_clear 6 = .ok (.getfield 15, 3) := by decide +kernel
theorem dX2_clear_9 : decode cX2_clear 9 = .ok (.iconst 0, 1) := by decide +kernel
theorem dX2_clear_10 : decode cX2_clear 10 = .ok (.invokestatic 25, 3) := by decide +kernel
theorem dX2_clear_13 : decode cX2_clear 13 = .ok (.return_, 1) := by decide +kernel
theorem dX2_add_0 : decode cX2_add 0 = .ok (.aload_n 0, 1) := by decide +kernel
theorem dX2_add_1 : decode cX2_add 1 = .ok (.getfield 15, 3) := by decide +kernel
theorem dX2_add_4 : decode cX2_add 4 = .ok (.iload_n 1, 1) := by decide +kernel
theorem dX2_add_5 : decode cX2_add 5 = .ok (.bipush 6, 2) := by decide +kernel
theorem dX2_add_7 : decode cX2_add 7 = .ok (.imul, 1) := by decide +kernel
theorem dX2_add_8 : decode cX2_add 8 = .ok (.iload_n 2, 1) := by decide +kernel
theorem dX2_add_9 : decode cX2_add 9 = .ok (.iadd, 1) := by decide +kernel
theorem dX2_add_10 : decode cX2_add 10 = .ok (.iload_n 3, 1) := by decide +kernel
theorem dX2_add_11 : decode cX2_add 11 = .ok (.iastore, 1) := by decide +kernel
theorem dX2_add_12 : decode cX2_add 12 = .ok (.aload_n 0, 1) := by decide +kernel
theorem dX2_add_13 : decode cX2_add 13 = .ok (.getfield 15, 3) := by decide +kernel
theorem dX2_add_16 : decode cX2_add 16 = .ok (.iload_n 2, 1) := by decide +kernel
theorem dX2_add_17 : decode cX2_add 17 = .ok (.bipush 6, 2) := by decide +kernel
theorem dX2_add_19 : decode cX2_add 19 = .ok (.imul, 1) := by decide +kernel
theorem dX2_add_20 : decode cX2_add 20 = .ok (.iload_n 1, 1) := by decide +kernel
theorem dX2_add_21 : decode cX2_add 21 = .ok (.iadd, 1) := by decide +kernel
theorem dX2_add_22 : decode cX2_add 22 = .ok (.iload_n 3, 1) := by decide +kernel
theorem dX2_add_23 : decode cX2_add 23 = .ok (.iastore, 1) := by decide +kernel
theorem dX2_add_24 : decode cX2_add 24 = .ok (.aload_n 0, 1) := by decide +kernel
theorem dX2_add_25 : decode cX2_add 25 = .ok (.dup, 1) := by decide +kernel
theorem dX2_add_26 : decode cX2_add 26 = .ok (.getfield 9, 3) := by decide +kernel
theorem dX2_add_29 : decode cX2_add 29 = .ok (.iconst 1, 1) := by decide +kernel
theorem dX2_add_30 : decode cX2_add 30 = .ok (.iadd, 1) := by decide +kernel
theorem dX2_add_31 : decode cX2_add 31 = .ok (.putfield 9, 3) := by decide +kernel
theorem dX2_add_34 : decode cX2_add 34 = .ok (.return_, 1) := by decide +kernel
theorem dX2_join_0 : decode cX2_join 0 = .ok (.aload_n 0, 1) := by decide +kernel
theorem dX2_join_1 : decode cX2_join 1 = .ok (.getfield 15, 3) := by decide +kernel
theorem dX2_join_4 : decode cX2_join 4 = .ok (.iload_n 1, 1) := by decide +kernel
theorem dX2_join_5 : decode cX2_join 5 = .ok (.bipush 6, 2) := by decide +kernel
theorem dX2_join_7 : decode cX2_join 7 = .ok (.imul, 1) := by decide +kernel
theorem dX2_join_8 : decode cX2_join 8 = .ok (.iload_n 2, 1) := by decide +kernel
theorem dX2_join_9 : decode cX2_join 9 = .ok (.iadd, 1) := by decide +kernel
theorem dX2_join_10 : decode cX2_join 10 = .ok (.iaload, 1) := by decide +kernel
theorem dX2_join_11 : decode cX2_join 11 = .ok (.ifCond .le 7, 3) := by decide +kernel
theorem dX2_join_14 : decode cX2_join 14 = .ok (.iconst 1, 1) := by decide +kernel
theorem dX2_join_15 : decode cX2_join 15 = .ok (.goto 4, 3) := by decide +kernel
theorem dX2_join_18 : decode cX2_join 18 = .ok (.iconst 0, 1) := by decide +kernel
theorem dX2_join_19 : decode cX2_join 19 = .ok (.ireturn, 1) := by decide +kernel
theorem dX2_between_0 : decode cX2_between 0 = .ok (.aload_n 0, 1) := by decide +kernel
theorem dX2_between_1 : decode cX2_between 1 = .ok (.getfield 19, 3) := by decide +kernel
theorem dX2_between_4 : decode cX2_between 4 = .ok (.iload_n 1, 1) := by decide +kernel
theorem dX2_between_5 : decode cX2_between 5 = .ok (.bipush 6, 2) := by decide +kernel
theorem dX2_between_7 : decode cX2_between 7 = .ok (.imul, 1) := by decide +kernel
theorem dX2_between_8 : decode cX2_between 8 = .ok (.iload_n 2, 1) := by decide +kernel
theorem dX2_between_9 : decode cX2_between 9 = .ok (.iadd, 1) := by decide +kernel
theorem dX2_between_10 : decode cX2_between 10 = .ok (.iaload, 1) := by decide +kernel
theorem dX2_between_11 : decode cX2_between 11 = .ok (.ireturn, 1) := by decide +kernel
theorem dX2_measure_0 : decode cX2_measure 0 = .ok (.iconst 0, 1) := by decide +kernel
theorem dX2_measure_1 : decode cX2_measure 1 = .ok (.istore_n 1, 1) := by decide +kernel
theorem dX2_measure_2 : decode cX2_measure 2 = .ok (.iload_n 1, 1) := by decide +kernel
theorem dX2_measure_3 : decode cX2_measure 3 = .ok (.bipush 6, 2) := by decide +kernel
theorem dX2_measure_5 : decode cX2_measure 5 = .ok (.if_icmp .ge 70, 3) := by decide +kernel
theorem dX2_measure_8 : decode cX2_measure 8 = .ok (.iconst 0, 1) := by decide +kernel
theorem dX2_measure_9 : decode cX2_measure 9 = .ok (.istore_n 2, 1) := by decide +kernel
theorem dX2_measure_10 : decode cX2_measure 10 = .ok (.iload_n 2, 1) := by decide +kernel
theorem dX2_measure_11 : decode cX2_measure 11 = .ok (.bipush 6, 2) := by decide +kernel
theorem dX2_measure_13 : decode cX2_measure 13 = .ok (.if_icmp .ge 56, 3) := by decide +kernel
theorem dX2_measure_16 : decode cX2_measure 16 = .ok (.aload_n 0, 1) := by decide +kernel
theorem dX2_measure_17 : decode cX2_measure 17 = .ok (.iload_n 1, 1) := by decide +kernel
theorem dX2_measure_18 : decode cX2_measure 18 = .ok (.iload_n 2, 1) := by decide +kernel
theorem dX2_measure_19 : decode cX2_measure 19 = .ok (.invokevirtual 31, 3) := by decide +kernel
theorem dX2_measure_22 : decode cX2_measure 22 = .ok (.ifCond .eq 17, 3) := by decide +kernel
theorem dX2_measure_25 : decode cX2_measure 25 = .ok (.aload_n 0, 1) := by decide +kernel
theorem dX2_measure_26 : decode cX2_measure 26 = .ok (.getfield 15, 3) := by decide +kernel
theorem dX2_measure_29 : decode cX2_measure 29 = .ok (.iload_n 1, 1) := by decide +kernel
theorem dX2_measure_30 : decode cX2_measure 30 = .ok (.bipush 6, 2) := by decide +kernel
theorem dX2_measure_32 : decode cX2_measure 32 = .ok (.imul, 1) := by decide +kernel
theorem dX2_measure_33 : decode cX2_measure 33 = .ok (.iload_n 2, 1) := by decide +kernel
theorem dX2_measure_34 : decode cX2_measure 34 = .ok (.iadd, 1) := by decide +kernel
theorem dX2_measure_35 : decode cX2_measure 35 = .ok (.iaload, 1) := by decide +kernel
theorem dX2_measure_36 : decode cX2_measure 36 = .ok (.goto 5, 3) := by decide +kernel
theorem dX2_measure_39 : decode cX2_measure 39 = .ok (.ldc 35, 2) := by decide +kernel
theorem dX2_measure_41 : decode cX2_measure 41 = .ok (.istore_n 3, 1) := by decide +kernel
theorem dX2_measure_42 : decode cX2_measure 42 = .ok (.aload_n 0, 1) := by decide +kernel
theorem dX2_measure_43 : decode cX2_measure 43 = .ok (.getfield 19, 3) := by decide +kernel
theorem dX2_measure_46 : decode cX2_measure 46 = .ok (.iload_n 1, 1) := by decide +kernel
theorem dX2_measure_47 : decode cX2_measure 47 = .ok (.bipush 6, 2) := by decide +kernel
theorem dX2_measure_49 : decode cX2_measure 49 = .ok (.imul, 1) := by decide +kernel
theorem dX2_measure_50 : decode cX2_measure 50 = .ok (.iload_n 2, 1) := by decide +kernel
theorem dX2_measure_51 : decode cX2_measure 51 = .ok (.iadd, 1) := by decide +kernel
theorem dX2_measure_52 : decode cX2_measure 52 = .ok (.iload_n 1, 1) := by decide +kernel
theorem dX2_measure_53 : decode cX2_measure 53 = .ok (.iload_n 2, 1) := by decide +kernel
theorem dX2_measure_54 : decode cX2_measure 54 = .ok (.if_icmp .ne 7, 3) := by decide +kernel
theorem dX2_measure_57 : decode cX2_measure 57 = .ok (.iconst 0, 1) := by decide +kernel
theorem dX2_measure_58 : decode cX2_measure 58 = .ok (.goto 4, 3) := by decide +kernel
theorem dX2_measure_61 : decode cX2_measure 61 = .ok (.iload_n 3, 1) := by decide +kernel
theorem dX2_measure_62 : decode cX2_measure 62 = .ok (.iastore, 1) := by decide +kernel
theorem dX2_measure_63 : decode cX2_measure 63 = .ok (.iinc 2 1, 3) := by decide +kernel
theorem dX2_measure_66 : decode cX2_measure 66 = .ok (.goto (-56), 3) := by decide +kernel
theorem dX2_measure_69 : decode cX2_measure 69 = .ok (.iinc 1 1, 3) := by decide +kernel
theorem dX2_measure_72 : decode cX2_measure 72 = .ok (.goto (-70), 3) := by decide +kernel
theorem dX2_measure_75 : decode cX2_measure 75 = .ok (.iconst 0, 1) := by decide +kernel
theorem dX2_measure_76 : decode cX2_measure 76 = .ok (.istore_n 1, 1) := by decide +kernel
theorem dX2_measure_77 : decode cX2_measure 77 = .ok (.iload_n 1, 1) := by decide +kernel
theorem dX2_measure_78 : decode cX2_measure 78 = .ok (.bipush 6, 2) := by decide +kernel
theorem dX2_measure_80 : decode cX2_measure 80 = .ok (.if_icmp .ge 74, 3) := by decide +kernel
theorem dX2_measure_83 : decode cX2_measure 83 = .ok (.iconst 0, 1) := by decide +kernel
theorem dX2_measure_84 : decode cX2_measure 84 = .ok (.istore_n 2, 1) := by decide +kernel
theorem dX2_measure_85 : decode cX2_measure 85 = .ok (.iload_n 2, 1) := by decide +kernel
theorem dX2_measure_86 : decode cX2_measure 86 = .ok (.bipush 6, 2) := by decide +kernel
theorem dX2_measure_88 : decode cX2_measure 88 = .ok (.if_icmp .ge 60, 3) := by decide +kernel
theorem dX2_measure_91 : decode cX2_measure 91 = .ok (.iconst 0, 1) := by decide +kernel
theorem dX2_measure_92 : decode cX2_measure 92 = .ok (.istore_n 3, 1) := by decide +kernel
theorem dX2_measure_93 : decode cX2_measure 93 = .ok (.iload_n 3, 1) := by decide +kernel
theorem dX2_measure_94 : decode cX2_measure 94 = .ok (.bipush 6, 2) := by decide +kernel
theorem dX2_measure_96 : decode cX2_measure 96 = .ok (.if_icmp .ge 46, 3) := by decide +kernel
theorem dX2_measure_99 : decode cX2_measure 99 = .ok (.aload_n 0, 1) := by decide +kernel
theorem dX2_measure_100 : decode cX2_measure 100 = .ok (.iload_n 2, 1) := by decide +kernel
theorem dX2_measure_101 : decode cX2_measure 101 = .ok (.iload_n 1, 1) := by decide +kernel
theorem dX2_measure_102 : decode cX2_measure 102 = .ok (.invokevirtual 36, 3) := by decide +kernel
theorem dX2_measure_105 : decode cX2_measure 105 = .ok (.aload_n 0, 1) := by decide +kernel
theorem dX2_measure_106 : decode cX2_measure 106 = .ok (.iload_n 1, 1) := by decide +kernel
theorem dX2_measure_107 : decode cX2_measure 107 = .ok (.iload_n 3, 1) := by decide +kernel
theorem dX2_measure_108 : decode cX2_measure 108 = .ok (.invokevirtual 36, 3) := by decide +kernel
theorem dX2_measure_111 : decode cX2_measure 111 = .ok (.iadd, 1) := by decide +kernel
theorem dX2_measure_112 : decode cX2_measure 112 = .ok (.istore 4, 2) := by decide +kernel
theorem dX2_measure_114 : decode cX2_measure 114 = .ok (.aload_n 0, 1) := by decide +kernel
theorem dX2_measure_115 : decode cX2_measure 115 = .ok (.getfield 19, 3) := by decide +kernel
theorem dX2_measure_118 : decode cX2_measure 118 = .ok (.iload_n 2, 1) := by decide +kernel
theorem dX2_measure_119 : decode cX2_measure 119 = .ok (.bipush 6, 2) := by decide +kernel
theorem dX2_measure_121 : decode cX2_measure 121 = .ok (.imul, 1) := by decide +kernel
theorem dX2_measure_122 : decode cX2_measure 122 = .ok (.iload_n 3, 1) := by decide +kernel
theorem dX2_measure_123 : decode cX2_measure 123 = .ok (.iadd, 1) := by decide +kernel
theorem dX2_measure_124 : decode cX2_measure 124 = .ok (.aload_n 0, 1) := by decide +kernel
theorem dX2_measure_125 : decode cX2_measure 125 = .ok (.iload_n 2, 1) := by decide +kernel
theorem dX2_measure_126 : decode cX2_measure 126 = .ok (.iload_n 3, 1) := by decide +kernel
theorem dX2_measure_127 : decode cX2_measure 127 = .ok (.invokevirtual 36, 3) := by decide +kernel
theorem dX2_measure_130 : decode cX2_measure 130 = .ok (.iload 4, 2) := by decide +kernel
theorem dX2_measure_132 : decode cX2_measure 132 = .ok (.invokestatic 40, 3) := by decide +kernel
theorem dX2_measure_135 : decode cX2_measure 135 = .ok (.iastore, 1) := by decide +kernel
theorem dX2_measure_136 : decode cX2_measure 136 = .ok (.iinc 3 1, 3) := by decide +kernel
theorem dX2_measure_139 : decode cX2_measure 139 = .ok (.goto (-46), 3) := by decide +kernel
theorem dX2_measure_142 : decode cX2_measure 142 = .ok (.iinc 2 1, 3) := by decide +kernel
theorem dX2_measure_145 : decode cX2_measure 145 = .ok (.goto (-60), 3) := by decide +kernel
theorem dX2_measure_148 : decode cX2_measure 148 = .ok (.iinc 1 1, 3) := by decide +kernel
theorem dX2_measure_151 : decode cX2_measure 151 = .ok (.goto (-74), 3) := by decide +kernel
theorem dX2_measure_154 : decode cX2_measure 154 = .ok (.return_, 1) := by decide +kernel
theorem dX2_next_0 : decode cX2_next 0 = .ok (.iconst 0, 1) := by decide +kernel
theorem dX2_next_1 : decode cX2_next 1 = .ok (.istore_n 3, 1) := by decide +kernel
theorem dX2_next_2 : decode cX2_next 2 = .ok (.iload_n 3, 1) := by decide +kernel
theorem dX2_next_3 : decode cX2_next 3 = .ok (.bipush 6, 2) := by decide +kernel
theorem dX2_next_5 : decode cX2_next 5 = .ok (.if_icmp .ge 47, 3) := by decide +kernel
theorem dX2_next_8 : decode cX2_next 8 = .ok (.aload_n 0, 1) := by decide +kernel
theorem dX2_next_9 : decode cX2_next 9 = .ok (.iload_n 1, 1) := by decide +kernel
theorem dX2_next_10 : decode cX2_next 10 = .ok (.iload_n 3, 1) := by decide +kernel
theorem dX2_next_11 : decode cX2_next 11 = .ok (.invokevirtual 31, 3) := by decide +kernel
theorem dX2_next_14 : decode cX2_next 14 = .ok (.ifCond .eq 32, 3) := by decide +kernel
theorem dX2_next_17 : decode cX2_next 17 = .ok (.aload_n 0, 1) := by decide +kernel
theorem dX2_next_18 : decode cX2_next 18 = .ok (.getfield 15, 3) := by decide +kernel
theorem dX2_next_21 : decode cX2_next 21 = .ok (.iload_n 1, 1) := by decide +kernel
theorem dX2_next_22 : decode cX2_next 22 = .ok (.bipush 6, 2) := by decide +kernel
theorem dX2_next_24 : decode cX2_next 24 = .ok (.imul, 1) := by decide +kernel
theorem dX2_next_25 : decode cX2_next 25 = .ok (.iload_n 3, 1) := by decide +kernel
theorem dX2_next_26 : decode cX2_next 26 = .ok (.iadd, 1) := by decide +kernel
theorem dX2_next_27 : decode cX2_next 27 = .ok (.iaload, 1) := by decide +kernel
theorem dX2_next_28 : decode cX2_next 28 = .ok (.aload_n 0, 1) := by decide +kernel
theorem dX2_next_29 : decode cX2_next 29 = .ok (.iload_n 3, 1) := by decide +kernel
theorem dX2_next_30 : decode cX2_next 30 = .ok (.iload_n 2, 1) := by decide +kernel
theorem dX2_next_31 : decode cX2_next 31 = .ok (.invokevirtual 36, 3) := by decide +kernel
theorem dX2_next_34 : decode cX2_next 34 = .ok (.iadd, 1) := by decide +kernel
theorem dX2_next_35 : decode cX2_next 35 = .ok (.aload_n 0, 1) := by decide +kernel
theorem dX2_next_36 : decode cX2_next 36 = .ok (.iload_n 1, 1) := by decide +kernel
theorem dX2_next_37 : decode cX2_next 37 = .ok (.iload_n 2, 1) := by decide +kernel
theorem dX2_next_38 : decode cX2_next 38 = .ok (.invokevirtual 36, 3) := by decide +kernel
theorem dX2_next_41 : decode cX2_next 41 = .ok (.if_icmp .ne 5, 3) := by decide +kernel
theorem dX2_next_44 : decode cX2_next 44 = .ok (.iload_n 3, 1) := by decide +kernel
theorem dX2_next_45 : decode cX2_next 45 = .ok (.ireturn, 1) := by decide +kernel
theorem dX2_next_46 : decode cX2_next 46 = .ok (.iinc 3 1, 3) := by decide +kernel
theorem dX2_next_49 : decode cX2_next 49 = .ok (.goto (-47), 3) := by decide +kernel
theorem dX2_next_52 : decode cX2_next 52 = .ok (.iconst (-1), 1) := by decide +kernel
theorem dX2_next_53 : decode cX2_next 53 = .ok (.ireturn, 1) := by decide +kernel
theorem dX2_shortestRound_0 : decode cX2_shortestRound 0 = .ok (.iconst 0, 1) := by decide +kernel
theorem dX2_shortestRound_1 : decode cX2_shortestRound 1 = .ok (.istore_n 2, 1) := by decide +kernel
theorem dX2_shortestRound_2 : decode cX2_shortestRound 2 = .ok (.iconst 0, 1) := by decide +kernel
theorem dX2_shortestRound_3 : decode cX2_shortestRound 3 = .ok (.istore_n 3, 1) := by decide +kernel
theorem dX2_shortestRound_4 : decode cX2_shortestRound 4 = .ok (.iload_n 3, 1) := by decide +kernel
theorem dX2_shortestRound_5 : decode cX2_shortestRound 5 = .ok (.bipush 6, 2) := by decide +kernel
theorem dX2_shortestRound_7 : decode cX2_shortestRound 7 = .ok (.if_icmp .ge 31, 3) := by decide +kernel
theorem dX2_shortestRound_10 : decode cX2_shortestRound 10 = .ok (.iload_n 3, 1) := by decide +kernel
theorem dX2_shortestRound_11 : decode cX2_shortestRound 11 = .ok (.iload_n 1, 1) := by decide +kernel
theorem dX2_shortestRound_12 : decode cX2_shortestRound 12 = .ok (.if_icmp .eq 20, 3) := by decide +kernel
theorem dX2_shortestRound_15 : decode cX2_shortestRound 15 = .ok (.aload_n 0, 1) := by decide +kernel
theorem dX2_shortestRound_16 : decode cX2_shortestRound 16 = .ok (.iload_n 1, 1) := by decide +kernel
theorem dX2_shortestRound_17 : decode cX2_shortestRound 17 = .ok (.iload_n 3, 1) := by decide +kernel
theorem dX2_shortestRound_18 : decode cX2_shortestRound 18 = .ok (.invokevirtual 36, 3) := by decide +kernel
theorem dX2_shortestRound_21 : decode cX2_shortestRound 21 = .ok (.ldc 35, 2) := by decide +kernel
theorem dX2_shortestRound_23 : decode cX2_shortestRound 23 = .ok (.if_icmp .ge 9, 3) := by decide +kernel
theorem dX2_shortestRound_26 : decode cX2_shortestRound 26 = .ok (.iload_n 2, 1) := by decide +kernel
theorem dX2_shortestRound_27 : decode cX2_shortestRound 27 = .ok (.iconst 1, 1) := by decide +kernel
theorem dX2_shortestRound_28 : decode cX2_shortestRound 28 = .ok (.iload_n 3, 1) := by decide +kernel
theorem dX2_shortestRound_29 : decode cX2_shortestRound 29 = .ok (.ishl, 1) := by decide +kernel
theorem dX2_shortestRound_30 : decode cX2_shortestRound 30 = .ok (.ior, 1) := by decide +kernel
theorem dX2_shortestRound_31 : decode cX2_shortestRound 31 = .ok (.istore_n 2, 1) := by decide +kernel
theorem dX2_shortestRound_32 : decode cX2_shortestRound 32 = .ok (.iinc 3 1, 3) := by decide +kernel
theorem dX2_shortestRound_35 : decode cX2_shortestRound 35 = .ok (.goto (-31), 3) := by decide +kernel
theorem dX2_shortestRound_38 : decode cX2_shortestRound 38 = .ok (.aload_n 0, 1) := by decide +kernel
theorem dX2_shortestRound_39 : decode cX2_shortestRound 39 = .ok (.ldc 35, 2) := by decide +kernel
theorem dX2_shortestRound_41 : decode cX2_shortestRound 41 = .ok (.putfield 22, 3) := by decide +kernel
theorem dX2_shortestRound_44 : decode cX2_shortestRound 44 = .ok (.aload_n 0, 1) := by decide +kernel
theorem dX2_shortestRound_45 : decode cX2_shortestRound 45 = .ok (.iload_n 1, 1) := by decide +kernel
theorem dX2_shortestRound_46 : decode cX2_shortestRound 46 = .ok (.iload_n 1, 1) := by decide +kernel
theorem dX2_shortestRound_47 : decode cX2_shortestRound 47 = .ok (.iload_n 2, 1) := by decide +kernel
theorem dX2_shortestRound_48 : decode cX2_shortestRound 48 = .ok (.iconst 0, 1) := by decide +kernel
theorem dX2_shortestRound_49 : decode cX2_shortestRound 49 = .ok (.iconst 0, 1) := by decide +kernel
theorem dX2_shortestRound_50 : decode cX2_shortestRound 50 = .ok (.invokevirtual 45, 3) := by decide +kernel
theorem dX2_shortestRound_53 : decode cX2_shortestRound 53 = .ok (.aload_n 0, 1) := by decide +kernel
theorem dX2_shortestRound_54 : decode cX2_shortestRound 54 = .ok (.getfield 22, 3) := by decide +kernel
theorem dX2_shortestRound_57 : decode cX2_shortestRound 57 = .ok (.ireturn, 1) := by decide +kernel
theorem dX2_goRound_0 : decode cX2_goRound 0 = .ok (.iload 5, 2) := by decide +kernel
theorem dX2_goRound_2 : decode cX2_goRound 2 = .ok (.bipush 6, 2) := by decide +kernel
theorem dX2_goRound_4 : decode cX2_goRound 4 = .ok (.if_icmp .gt 12, 3) := by decide +kernel
theorem dX2_goRound_7 : decode cX2_goRound 7 = .ok (.iload 4, 2) := by decide +kernel
theorem dX2_goRound_9 : decode cX2_goRound 9 = .ok (.aload_n 0, 1) := by decide +kernel
theorem dX2_goRound_10 : decode cX2_goRound 10 = .ok (.getfield 22, 3) := by decide +kernel
theorem dX2_goRound_13 : decode cX2_goRound 13 = .ok (.if_icmp .lt 4, 3) := by decide +kernel
theorem dX2_goRound_16 : decode cX2_goRound 16 = .ok (.return_, 1) := by decide +kernel
theorem dX2_goRound_17 : decode cX2_goRound 17 = .ok (.iload_n 3, 1) := by decide +kernel
theorem dX2_goRound_18 : decode cX2_goRound 18 = .ok (.ifCond .ne 24, 3) := by decide +kernel
theorem dX2_goRound_21 : decode cX2_goRound 21 = .ok (.aload_n 0, 1) := by decide +kernel
theorem dX2_goRound_22 : decode cX2_goRound 22 = .ok (.aload_n 0, 1) := by decide +kernel
theorem dX2_goRound_23 : decode cX2_goRound 23 = .ok (.getfield 22, 3) := by decide +kernel
theorem dX2_goRound_26 : decode cX2_goRound 26 = .ok (.iload 4, 2) := by decide +kernel
theorem dX2_goRound_28 : decode cX2_goRound 28 = .ok (.aload_n 0, 1) := by decide +kernel
theorem dX2_goRound_29 : decode cX2_goRound 29 = .ok (.iload_n 2, 1) := by decide +kernel
theorem dX2_goRound_30 : decode cX2_goRound 30 = .ok (.iload_n 1, 1) := by decide +kernel
theorem dX2_goRound_31 : decode cX2_goRound 31 = .ok (.invokevirtual 36, 3) := by decide +kernel
theorem dX2_goRound_34 : decode cX2_goRound 34 = .ok (.iadd, 1) := by decide +kernel
theorem dX2_goRound_35 : decode cX2_goRound 35 = .ok (.invokestatic 40, 3) := by decide +kernel
theorem dX2_goRound_38 : decode cX2_goRound 38 = .ok (.putfield 22, 3) := by decide +kernel
theorem dX2_goRound_41 : decode cX2_goRound 41 = .ok (.return_, 1) := by decide +kernel
theorem dX2_goRound_42 : decode cX2_goRound 42 = .ok (.iconst 0, 1) := by decide +kernel
theorem dX2_goRound_43 : decode cX2_goRound 43 = .ok (.istore 6, 2) := by decide +kernel
theorem dX2_goRound_45 : decode cX2_goRound 45 = .ok (.iload 6, 2) := by decide +kernel
theorem dX2_goRound_47 : decode cX2_goRound 47 = .ok (.bipush 6, 2) := by decide +kernel
theorem dX2_goRound_49 : decode cX2_goRound 49 = .ok (.if_icmp .ge 48, 3) := by decide +kernel
theorem dX2_goRound_52 : decode cX2_goRound 52 = .ok (.iload_n 3, 1) := by decide +kernel
theorem dX2_goRound_53 : decode cX2_goRound 53 = .ok (.iload 6, 2) := by decide +kernel
theorem dX2_goRound_55 : decode cX2_goRound 55 = .ok (.ishr, 1) := by decide +kernel
theorem dX2_goRound_56 : decode cX2_goRound 56 = .ok (.iconst 1, 1) := by decide +kernel
theorem dX2_goRound_57 : decode cX2_goRound 57 = .ok (.iand, 1) := by decide +kernel
theorem dX2_goRound_58 : decode cX2_goRound 58 = .ok (.iconst 1, 1) := by decide +kernel
theorem dX2_goRound_59 : decode cX2_goRound 59 = .ok (.if_icmp .ne 32, 3) := by decide +kernel
theorem dX2_goRound_62 : decode cX2_goRound 62 = .ok (.aload_n 0, 1) := by decide +kernel
theorem dX2_goRound_63 : decode cX2_goRound 63 = .ok (.iload_n 1, 1) := by decide +kernel
theorem dX2_goRound_64 : decode cX2_goRound 64 = .ok (.iload 6, 2) := by decide +kernel
theorem dX2_goRound_66 : decode cX2_goRound 66 = .ok (.iload_n 3, 1) := by decide +kernel
theorem dX2_goRound_67 : decode cX2_goRound 67 = .ok (.iconst 1, 1) := by decide +kernel
theorem dX2_goRound_68 : decode cX2_goRound 68 = .ok (.iload 6, 2) := by decide +kernel
theorem dX2_goRound_70 : decode cX2_goRound 70 = .ok (.ishl, 1) := by decide +kernel
theorem dX2_goRound_71 : decode cX2_goRound 71 = .ok (.iconst (-1), 1) := by decide +kernel
theorem dX2_goRound_72 : decode cX2_goRound 72 = .ok (.ixor, 1) := by decide +kernel
theorem dX2_goRound_73 : decode cX2_goRound 73 = .ok (.iand, 1) := by decide +kernel
theorem dX2_goRound_74 : decode cX2_goRound 74 = .ok (.iload 4, 2) := by decide +kernel
theorem dX2_goRound_76 : decode cX2_goRound 76 = .ok (.aload_n 0, 1) := by decide +kernel
theorem dX2_goRound_77 : decode cX2_goRound 77 = .ok (.iload_n 2, 1) := by decide +kernel
theorem dX2_goRound_78 : decode cX2_goRound 78 = .ok (.iload 6, 2) := by decide +kernel
theorem dX2_goRound_80 : decode cX2_goRound 80 = .ok (.invokevirtual 36, 3) := by decide +kernel
theorem dX2_goRound_83 : decode cX2_goRound 83 = .ok (.iadd, 1) := by decide +kernel
theorem dX2_goRound_84 : decode cX2_goRound 84 = .ok (.iload 5, 2) := by decide +kernel
theorem dX2_goRound_86 : decode cX2_goRound 86 = .ok (.iconst 1, 1) := by decide +kernel
theorem dX2_goRound_87 : decode cX2_goRound 87 = .ok (.iadd, 1) := by decide +kernel
theorem dX2_goRound_88 : decode cX2_goRound 88 = .ok (.invokevirtual 45, 3) := by decide +kernel
theorem dX2_goRound_91 : decode cX2_goRound 91 = .ok (.iinc 6 1, 3) := by decide +kernel
theorem dX2_goRound_94 : decode cX2_goRound 94 = .ok (.goto (-49), 3) := by decide +kernel
theorem dX2_goRound_97 : decode cX2_goRound 97 = .ok (.return_, 1) := by decide +kernel
