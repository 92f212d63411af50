theorem dX12_init_0 : decode cX12_init 0 = .ok (.aload_n 0, 1) := by decide +kernel
theorem dX12_init_1 : decode cX12_init 1 = .ok (.invokespecial 3, 3) := by decide +kernel
theorem dX12_init_4 : decode cX12_init 4 = .ok (.aload_n 0, 1) := by decide +kernel
theorem dX12_init_5 : decode cX12_init 5 = .ok (.bipush 6, 2) := by decide +kernel
theorem dX12_init_7 : decode cX12_init 7 = .ok (.newarray .int, 2) := by decide +kernel
theorem dX12_init_9 : decode cX12_init 9 = .ok (.putfield 9, 3) := by decide +kernel
theorem dX12_init_12 : decode cX12_init 12 = .ok (.aload_n 0, 1) := by decide +kernel
theorem dX12_init_13 : decode cX12_init 13 = .ok (.bipush 36, 2) := by decide +kernel
theorem dX12_init_15 : decode cX12_init 15 = .ok (.newarray .int, 2) := by decide +kernel
theorem dX12_init_17 : decode cX12_init 17 = .ok (.putfield 15, 3) := by decide +kernel
theorem dX12_init_20 : decode cX12_init 20 = .ok (.aload_n 0, 1) := by decide +kernel
theorem dX12_init_21 : decode cX12_init 21 = .ok (.bipush 36, 2) := by decide +kernel
theorem dX12_init_23 : decode cX12_init 23 = .ok (.newarray .int, 2) := by decide +kernel
theorem dX12_init_25 : decode cX12_init 25 = .ok (.putfield 18, 3) := by decide +kernel
theorem dX12_init_28 : decode cX12_init 28 = .ok (.aload_n 0, 1) := by decide +kernel
theorem dX12_init_29 : decode cX12_init 29 = .ok (.bipush 6, 2) := by decide +kernel
theorem dX12_init_31 : decode cX12_init 31 = .ok (.newarray .int, 2) := by decide +kernel
theorem dX12_init_33 : decode cX12_init 33 = .ok (.putfield 21, 3) := by decide +kernel
theorem dX12_init_36 : decode cX12_init 36 = .ok (.aload_n 0, 1) := by decide +kernel
theorem dX12_init_37 : decode cX12_init 37 = .ok (.bipush 6, 2) := by decide +kernel
theorem dX12_init_39 : decode cX12_init 39 = .ok (.newarray .int, 2) := by decide +kernel
theorem dX12_init_41 : decode cX12_init 41 = .ok (.putfield 24, 3) := by decide +kernel
theorem dX12_init_44 : decode cX12_init 44 = .ok (.aload_n 0, 1) := by decide +kernel
theorem dX12_init_45 : decode cX12_init 45 = .ok (.bipush 6, 2) := by decide +kernel
theorem dX12_init_47 : decode cX12_init 47 = .ok (.newarray .int, 2) := by decide +kernel
theorem dX12_init_49 : decode cX12_init 49 = .ok (.putfield 27, 3) := by decide +kernel
theorem dX12_init_52 : decode cX12_init 52 = .ok (.aload_n 0, 1) := by decide +kernel
theorem dX12_init_53 : decode cX12_init 53 = .ok (.bipush 30, 2) := by decide +kernel
theorem dX12_init_55 : decode cX12_init 55 = .ok (.newarray .int, 2) := by decide +kernel
theorem dX12_init_57 : decode cX12_init 57 = .ok (.putfield 30, 3) := by decide +kernel
theorem dX12_init_60 : decode cX12_init 60 = .ok (.aload_n 0, 1) := by decide +kernel
theorem dX12_init_61 : decode cX12_init 61 = .ok (.iconst 5, 1) := by decide +kernel
theorem dX12_init_62 : decode cX12_init 62 = .ok (.newarray .int, 2) := by decide +kernel
theorem dX12_init_64 : decode cX12_init 64 = .ok (.putfield 33, 3) := by decide +kernel
theorem dX12_init_67 : decode cX12_init 67 = .ok (.aload_n 0, 1) := by decide +kernel
theorem dX12_init_68 : decode cX12_init 68 = .ok (.iconst 5, 1) := by decide +kernel
theorem dX12_init_69 : decode cX12_init 69 = .ok (.newarray .int, 2) := by decide +kernel
theorem dX12_init_71 : decode cX12_init 71 = .ok (.putfield 36, 3) := by decide +kernel
theorem dX12_init_74 : decode cX12_init 74 = .ok (.aload_n 0, 1) := by decide +kernel
theorem dX12_init_75 : decode cX12_init 75 = .ok (.iconst 5, 1) := by decide +kernel
theorem dX12_init_76 : decode cX12_init 76 = .ok (.newarray .int, 2) := by decide +kernel
theorem dX12_init_78 : decode cX12_init 78 = .ok (.putfield 39, 3) := by decide +kernel
theorem dX12_init_81 : decode cX12_init 81 = .ok (.aload_n 0, 1) := by decide +kernel
theorem dX12_init_82 : decode cX12_init 82 = .ok (.bipush 8, 2) := by decide +kernel
theorem dX12_init_84 : decode cX12_init 84 = .ok (.newarray .int, 2) := by decide +kernel
theorem dX12_init_86 : decode cX12_init 86 = .ok (.putfield 42, 3) := by decide +kernel
theorem dX12_init_89 : decode cX12_init 89 = .ok (.aload_n 0, 1) := by decide +kernel
theorem dX12_init_90 : decode cX12_init 90 = .ok (.bipush 8, 2) := by decide +kernel
theorem dX12_init_92 : decode cX12_init 92 = .ok (.newarray .int, 2) := by decide +kernel
theorem dX12_init_94 : decode cX12_init 94 = .ok (.putfield 45, 3) := by decide +kernel
theorem dX12_init_97 : decode cX12_init 97 = .ok (.aload_n 0, 1) := by decide +kernel
theorem dX12_init_98 : decode cX12_init 98 = .ok (.bipush 8, 2) := by decide +kernel
theorem dX12_init_100 : decode cX12_init 100 = .ok (.newarray .int, 2) := by decide +kernel
theorem dX12_init_102 : decode cX12_init 102 = .ok (.putfield 48, 3) := by decide +kernel
theorem dX12_init_105 : decode cX12_init 105 = .ok (.aload_n 0, 1) := by decide +kernel
theorem dX12_init_106 : decode cX12_init 106 = .ok (.iconst 5, 1) := by decide +kernel
theorem dX12_init_107 : decode cX12_init 107 = .ok (.newarray .int, 2) := by decide +kernel
theorem dX12_init_109 : decode cX12_init 109 = .ok (.putfield 51, 3) := by decide +kernel
theorem dX12_init_112 : decode cX12_init 112 = .ok (.aload_n 0, 1) := by decide +kernel
theorem dX12_init_113 : decode cX12_init 113 = .ok (.iconst 5, 1) := by decide +kernel
theorem dX12_init_114 : decode cX12_init 114 = .ok (.newarray .int, 2) := by decide +kernel
theorem dX12_init_116 : decode cX12_init 116 = .ok (.putfield 54, 3) := by decide +kernel
theorem dX12_init_119 : decode cX12_init 119 = .ok (.aload_n 0, 1) := by decide +kernel
theorem dX12_init_120 : decode cX12_init 120 = .ok (.iconst 5, 1) := by decide +kernel
theorem dX12_init_121 : decode cX12_init 121 = .ok (.newarray .int, 2) := by decide +kernel
theorem dX12_init_123 : decode cX12_init 123 = .ok (.putfield 57, 3) := by decide +kernel
theorem dX12_init_126 : decode cX12_init 126 = .ok (.aload_n 0, 1) := by decide +kernel
theorem dX12_init_127 : decode cX12_init 127 = .ok (.bipush 17, 2) := by decide +kernel
theorem dX12_init_129 : decode cX12_init 129 = .ok (.newarray .long, 2) := by decide +kernel
theorem dX12_init_131 : decode cX12_init 131 = .ok (.putfield 60, 3) := by decide +kernel
theorem dX12_init_134 : decode cX12_init 134 = .ok (.aload_n 0, 1) := by decide +kernel
theorem dX12_init_135 : decode cX12_init 135 = .ok (.bipush 17, 2) := by decide +kernel
theorem dX12_init_137 : decode cX12_init 137 = .ok (.newarray .int, 2) := by decide +kernel
theorem dX12_init_139 : decode cX12_init 139 = .ok (.putfield 64, 3) := by decide +kernel
theorem dX12_init_142 : decode cX12_init 142 = .ok (.aload_n 0, 1) := by decide +kernel
theorem dX12_init_143 : decode cX12_init 143 = .ok (.bipush 17, 2) := by decide +kernel
theorem dX12_init_145 : decode cX12_init 145 = .ok (.newarray .int, 2) := by decide +kernel
theorem dX12_init_147 : decode cX12_init 147 = .ok (.putfield 67, 3) := by decide +kernel
theorem dX12_init_150 : decode cX12_init 150 = .ok (.return_, 1) := by decide +kernel
theorem dX12_find_0 : decode cX12_find 0 = .ok (.iconst 0, 1) := by decide +kernel
theorem dX12_find_1 : decode cX12_find 1 = .ok (.istore_n 3, 1) := by decide +kernel
theorem dX12_find_2 : decode cX12_find 2 = .ok (.iload_n 3, 1) := by decide +kernel
theorem dX12_find_3 : decode cX12_find 3 = .ok (.aload_n 0, 1) := by decide +kernel
theorem dX12_find_4 : decode cX12_find 4 = .ok (.getfield 70, 3) := by decide +kernel
theorem dX12_find_7 : decode cX12_find 7 = .ok (.if_icmp .ge 22, 3) := by decide +kernel
theorem dX12_find_10 : decode cX12_find 10 = .ok (.aload_n 0, 1) := by decide +kernel
theorem dX12_find_11 : decode cX12_find 11 = .ok (.getfield 60, 3) := by decide +kernel
theorem dX12_find_14 : decode cX12_find 14 = .ok (.iload_n 3, 1) := by decide +kernel
theorem dX12_find_15 : decode cX12_find 15 = .ok (.laload, 1) := by decide +kernel
theorem dX12_find_16 : decode cX12_find 16 = .ok (.lload_n 1, 1) := by decide +kernel
theorem dX12_find_17 : decode cX12_find 17 = .ok (.lcmp, 1) := by decide +kernel
theorem dX12_find_18 : decode cX12_find 18 = .ok (.ifCond .ne 5, 3) := by decide +kernel
theorem dX12_find_21 : decode cX12_find 21 = .ok (.iload_n 3, 1) := by decide +kernel
theorem dX12_find_22 : decode cX12_find 22 = .ok (.ireturn, 1) := by decide +kernel
theorem dX12_find_23 : decode cX12_find 23 = .ok (.iinc 3 1, 3) := by decide +kernel
theorem dX12_find_26 : decode cX12_find 26 = .ok (.goto (-24), 3) := by decide +kernel
theorem dX12_find_29 : decode cX12_find 29 = .ok (.iconst (-1), 1) := by decide +kernel
theorem dX12_find_30 : decode cX12_find 30 = .ok (.ireturn, 1) := by decide +kernel
theorem dX12_isDay_0 : decode cX12_isDay 0 = .ok (.iload_n 1, 1) := by decide +kernel
theorem dX12_isDay_1 : decode cX12_isDay 1 = .ok (.aload_n 0, 1) := by decide +kernel
theorem dX12_isDay_2 : decode cX12_isDay 2 = .ok (.getfield 74, 3) := by decide +kernel
theorem dX12_isDay_5 : decode cX12_isDay 5 = .ok (.if_icmp .lt 15, 3) := by decide +kernel
theorem dX12_isDay_8 : decode cX12_isDay 8 = .ok (.iload_n 1, 1) := by decide +kernel
theorem dX12_isDay_9 : decode cX12_isDay 9 = .ok (.aload_n 0, 1) := by decide +kernel
theorem dX12_isDay_10 : decode cX12_isDay 10 = .ok (.getfield 77, 3) := by decide +kernel
theorem dX12_isDay_13 : decode cX12_isDay 13 = .ok (.if_icmp .ge 7, 3) := by decide +kernel
theorem dX12_isDay_16 : decode cX12_isDay 16 = .ok (.iconst 1, 1) := by decide +kernel
theorem dX12_isDay_17 : decode cX12_isDay 17 = .ok (.goto 4, 3) := by decide +kernel
theorem dX12_isDay_20 : decode cX12_isDay 20 = .ok (.iconst 0, 1) := by decide +kernel
theorem dX12_isDay_21 : decode cX12_isDay 21 = .ok (.ireturn, 1) := by decide +kernel
theorem dX12_gap_0 : decode cX12_gap 0 = .ok (.aload_n 0, 1) := by decide +kernel
theorem dX12_gap_1 : decode cX12_gap 1 = .ok (.getfield 80, 3) := by decide +kernel
theorem dX12_gap_4 : decode cX12_gap 4 = .ok (.aload_n 0, 1) := by decide +kernel
theorem dX12_gap_5 : decode cX12_gap 5 = .ok (.getfield 9, 3) := by decide +kernel
theorem dX12_gap_8 : decode cX12_gap 8 = .ok (.iload_n 1, 1) := by decide +kernel
theorem dX12_gap_9 : decode cX12_gap 9 = .ok (.iaload, 1) := by decide +kernel
theorem dX12_gap_10 : decode cX12_gap 10 = .ok (.isub, 1) := by decide +kernel
theorem dX12_gap_11 : decode cX12_gap 11 = .ok (.ireturn, 1) := by decide +kernel
theorem dX12_feet_0 : decode cX12_feet 0 = .ok (.iconst 4, 1) := by decide +kernel
theorem dX12_feet_1 : decode cX12_feet 1 = .ok (.aload_n 0, 1) := by decide +kernel
theorem dX12_feet_2 : decode cX12_feet 2 = .ok (.getfield 30, 3) := by decide +kernel
theorem dX12_feet_5 : decode cX12_feet 5 = .ok (.iconst 5, 1) := by decide +kernel
theorem dX12_feet_6 : decode cX12_feet 6 = .ok (.iload_n 1, 1) := by decide +kernel
theorem dX12_feet_7 : decode cX12_feet 7 = .ok (.imul, 1) := by decide +kernel
theorem dX12_feet_8 : decode cX12_feet 8 = .ok (.iconst 3, 1) := by decide +kernel
theorem dX12_feet_9 : decode cX12_feet 9 = .ok (.iadd, 1) := by decide +kernel
theorem dX12_feet_10 : decode cX12_feet 10 = .ok (.iaload, 1) := by decide +kernel
theorem dX12_feet_11 : decode cX12_feet 11 = .ok (.imul, 1) := by decide +kernel
theorem dX12_feet_12 : decode cX12_feet 12 = .ok (.aload_n 0, 1) := by decide +kernel
theorem dX12_feet_13 : decode cX12_feet 13 = .ok (.getfield 30, 3) := by decide +kernel
theorem dX12_feet_16 : decode cX12_feet 16 = .ok (.iconst 5, 1) := by decide +kernel
theorem dX12_feet_17 : decode cX12_feet 17 = .ok (.iload_n 1, 1) := by decide +kernel
theorem dX12_feet_18 : decode cX12_feet 18 = .ok (.imul, 1) := by decide +kernel
theorem dX12_feet_19 : decode cX12_feet 19 = .ok (.iconst 3, 1) := by decide +kernel
theorem dX12_feet_20 : decode cX12_feet 20 = .ok (.iadd, 1) := by decide +kernel
theorem dX12_feet_21 : decode cX12_feet 21 = .ok (.iconst 1, 1) := by decide +kernel
theorem dX12_feet_22 : decode cX12_feet 22 = .ok (.iadd, 1) := by decide +kernel
theorem dX12_feet_23 : decode cX12_feet 23 = .ok (.iaload, 1) := by decide +kernel
theorem dX12_feet_24 : decode cX12_feet 24 = .ok (.iadd, 1) := by decide +kernel
theorem dX12_feet_25 : decode cX12_feet 25 = .ok (.ireturn, 1) := by decide +kernel
theorem dX12_above_0 : decode cX12_above 0 = .ok (.iconst 0, 1) := by decide +kernel
theorem dX12_above_1 : decode cX12_above 1 = .ok (.istore_n 3, 1) := by decide +kernel
theorem dX12_above_2 : decode cX12_above 2 = .ok (.iconst 0, 1) := by decide +kernel
theorem dX12_above_3 : decode cX12_above 3 = .ok (.istore 4, 2) := by decide +kernel
theorem dX12_above_5 : decode cX12_above 5 = .ok (.iload 4, 2) := by decide +kernel
theorem dX12_above_7 : decode cX12_above 7 = .ok (.iconst 3, 1) := by decide +kernel
theorem dX12_above_8 : decode cX12_above 8 = .ok (.if_icmp .ge 36, 3) := by decide +kernel
theorem dX12_above_11 : decode cX12_above 11 = .ok (.iload_n 3, 1) := by decide +kernel
theorem dX12_above_12 : decode cX12_above 12 = .ok (.aload_n 0, 1) := by decide +kernel
theorem dX12_above_13 : decode cX12_above 13 = .ok (.getfield 27, 3) := by decide +kernel
theorem dX12_above_16 : decode cX12_above 16 = .ok (.iload_n 1, 1) := by decide +kernel
theorem dX12_above_17 : decode cX12_above 17 = .ok (.iaload, 1) := by decide +kernel
theorem dX12_above_18 : decode cX12_above 18 = .ok (.bipush 10, 2) := by decide +kernel
theorem dX12_above_20 : decode cX12_above 20 = .ok (.iload 4, 2) := by decide +kernel
theorem dX12_above_22 : decode cX12_above 22 = .ok (.imul, 1) := by decide +kernel
theorem dX12_above_23 : decode cX12_above 23 = .ok (.isub, 1) := by decide +kernel
theorem dX12_above_24 : decode cX12_above 24 = .ok (.iload_n 2, 1) := by decide +kernel
theorem dX12_above_25 : decode cX12_above 25 = .ok (.if_icmp .le 10, 3) := by decide +kernel
theorem dX12_above_28 : decode cX12_above 28 = .ok (.iconst 1, 1) := by decide +kernel
theorem dX12_above_29 : decode cX12_above 29 = .ok (.iload 4, 2) := by decide +kernel
theorem dX12_above_31 : decode cX12_above 31 = .ok (.ishl, 1) := by decide +kernel
theorem dX12_above_32 : decode cX12_above 32 = .ok (.goto 4, 3) := by decide +kernel
theorem dX12_above_35 : decode cX12_above 35 = .ok (.iconst 0, 1) := by decide +kernel
theorem dX12_above_36 : decode cX12_above 36 = .ok (.ior, 1) := by decide +kernel
theorem dX12_above_37 : decode cX12_above 37 = .ok (.istore_n 3, 1) := by decide +kernel
theorem dX12_above_38 : decode cX12_above 38 = .ok (.iinc 4 1, 3) := by decide +kernel
theorem dX12_above_41 : decode cX12_above 41 = .ok (.goto (-36), 3) := by decide +kernel
theorem dX12_above_44 : decode cX12_above 44 = .ok (.iload_n 3, 1) := by decide +kernel
theorem dX12_above_45 : decode cX12_above 45 = .ok (.ireturn, 1) := by decide +kernel
theorem dX12_seen_0 : decode cX12_seen 0 = .ok (.aload_n 0, 1) := by decide +kernel
theorem dX12_seen_1 : decode cX12_seen 1 = .ok (.iload_n 3, 1) := by decide +kernel
theorem dX12_seen_2 : decode cX12_seen 2 = .ok (.invokevirtual 83, 3) := by decide +kernel
theorem dX12_seen_5 : decode cX12_seen 5 = .ok (.ifCond .eq 15, 3) := by decide +kernel
theorem dX12_seen_8 : decode cX12_seen 8 = .ok (.aload_n 0, 1) := by decide +kernel
theorem dX12_seen_9 : decode cX12_seen 9 = .ok (.iload_n 1, 1) := by decide +kernel
theorem dX12_seen_10 : decode cX12_seen 10 = .ok (.aload_n 0, 1) := by decide +kernel
theorem dX12_seen_11 : decode cX12_seen 11 = .ok (.getfield 9, 3) := by decide +kernel
theorem dX12_seen_14 : decode cX12_seen 14 = .ok (.iload_n 2, 1) := by decide +kernel
theorem dX12_seen_15 : decode cX12_seen 15 = .ok (.iaload, 1) := by decide +kernel
theorem dX12_seen_16 : decode cX12_seen 16 = .ok (.invokevirtual 87, 3) := by decide +kernel
theorem dX12_seen_19 : decode cX12_seen 19 = .ok (.ireturn, 1) := by decide +kernel
theorem dX12_seen_20 : decode cX12_seen 20 = .ok (.aload_n 0, 1) := by decide +kernel
theorem dX12_seen_21 : decode cX12_seen 21 = .ok (.getfield 21, 3) := by decide +kernel
theorem dX12_seen_24 : decode cX12_seen 24 = .ok (.iload_n 1, 1) := by decide +kernel
theorem dX12_seen_25 : decode cX12_seen 25 = .ok (.iaload, 1) := by decide +kernel
theorem dX12_seen_26 : decode cX12_seen 26 = .ok (.iconst 2, 1) := by decide +kernel
theorem dX12_seen_27 : decode cX12_seen 27 = .ok (.if_icmp .ne 8, 3) := by decide +kernel
theorem dX12_seen_30 : decode cX12_seen 30 = .ok (.bipush 7, 2) := by decide +kernel
theorem dX12_seen_32 : decode cX12_seen 32 = .ok (.goto 5, 3) := by decide +kernel
theorem dX12_seen_35 : decode cX12_seen 35 = .ok (.bipush 31, 2) := by decide +kernel
theorem dX12_seen_37 : decode cX12_seen 37 = .ok (.ireturn, 1) := by decide +kernel
theorem dX12_isTaken_0 : decode cX12_isTaken 0 = .ok (.aload_n 0, 1) := by decide +kernel
theorem dX12_isTaken_1 : decode cX12_isTaken 1 = .ok (.iload_n 1, 1) := by decide +kernel
theorem dX12_isTaken_2 : decode cX12_isTaken 2 = .ok (.iload_n 3, 1) := by decide +kernel
theorem dX12_isTaken_3 : decode cX12_isTaken 3 = .ok (.iload 4, 2) := by decide +kernel
theorem dX12_isTaken_5 : decode cX12_isTaken 5 = .ok (.invokevirtual 91, 3) := by decide +kernel
theorem dX12_isTaken_8 : decode cX12_isTaken 8 = .ok (.istore 5, 2) := by decide +kernel
theorem dX12_isTaken_10 : decode cX12_isTaken 10 = .ok (.iload_n 1, 1) := by decide +kernel
theorem dX12_isTaken_11 : decode cX12_isTaken 11 = .ok (.iload_n 2, 1) := by decide +kernel
theorem dX12_isTaken_12 : decode cX12_isTaken 12 = .ok (.if_icmp .eq 16, 3) := by decide +kernel
theorem dX12_isTaken_15 : decode cX12_isTaken 15 = .ok (.iload 5, 2) := by decide +kernel
theorem dX12_isTaken_17 : decode cX12_isTaken 17 = .ok (.aload_n 0, 1) := by decide +kernel
theorem dX12_isTaken_18 : decode cX12_isTaken 18 = .ok (.iload_n 2, 1) := by decide +kernel
theorem dX12_isTaken_19 : decode cX12_isTaken 19 = .ok (.iload_n 3, 1) := by decide +kernel
theorem dX12_isTaken_20 : decode cX12_isTaken 20 = .ok (.iload 4, 2) := by decide +kernel
theorem dX12_isTaken_22 : decode cX12_isTaken 22 = .ok (.invokevirtual 91, 3) := by decide +kernel
theorem dX12_isTaken_25 : decode cX12_isTaken 25 = .ok (.if_icmp .eq 5, 3) := by decide +kernel
theorem dX12_isTaken_28 : decode cX12_isTaken 28 = .ok (.iconst 0, 1) := by decide +kernel
theorem dX12_isTaken_29 : decode cX12_isTaken 29 = .ok (.ireturn, 1) := by decide +kernel
theorem dX12_isTaken_30 : decode cX12_isTaken 30 = .ok (.iconst 0, 1) := by decide +kernel
theorem dX12_isTaken_31 : decode cX12_isTaken 31 = .ok (.istore 6, 2) := by decide +kernel
theorem dX12_isTaken_33 : decode cX12_isTaken 33 = .ok (.iload 6, 2) := by decide +kernel
theorem dX12_isTaken_35 : decode cX12_isTaken 35 = .ok (.iconst 5, 1) := by decide +kernel
theorem dX12_isTaken_36 : decode cX12_isTaken 36 = .ok (.if_icmp .ge 46, 3) := by decide +kernel
theorem dX12_isTaken_39 : decode cX12_isTaken 39 = .ok (.iload 5, 2) := by decide +kernel
theorem dX12_isTaken_41 : decode cX12_isTaken 41 = .ok (.iload 6, 2) := by decide +kernel
theorem dX12_isTaken_43 : decode cX12_isTaken 43 = .ok (.invokestatic 95, 3) := by decide +kernel
theorem dX12_isTaken_46 : decode cX12_isTaken 46 = .ok (.ifCond .eq 30, 3) := by decide +kernel
theorem dX12_isTaken_49 : decode cX12_isTaken 49 = .ok (.aload_n 0, 1) := by decide +kernel
theorem dX12_isTaken_50 : decode cX12_isTaken 50 = .ok (.getfield 30, 3) := by decide +kernel
theorem dX12_isTaken_53 : decode cX12_isTaken 53 = .ok (.iconst 5, 1) := by decide +kernel
theorem dX12_isTaken_54 : decode cX12_isTaken 54 = .ok (.iload_n 1, 1) := by decide +kernel
theorem dX12_isTaken_55 : decode cX12_isTaken 55 = .ok (.imul, 1) := by decide +kernel
theorem dX12_isTaken_56 : decode cX12_isTaken 56 = .ok (.iload 6, 2) := by decide +kernel
theorem dX12_isTaken_58 : decode cX12_isTaken 58 = .ok (.iadd, 1) := by decide +kernel
theorem dX12_isTaken_59 : decode cX12_isTaken 59 = .ok (.iaload, 1) := by decide +kernel
theorem dX12_isTaken_60 : decode cX12_isTaken 60 = .ok (.aload_n 0, 1) := by decide +kernel
theorem dX12_isTaken_61 : decode cX12_isTaken 61 = .ok (.getfield 30, 3) := by decide +kernel
theorem dX12_isTaken_64 : decode cX12_isTaken 64 = .ok (.iconst 5, 1) := by decide +kernel
theorem dX12_isTaken_65 : decode cX12_isTaken 65 = .ok (.iload_n 2, 1) := by decide +kernel
theorem dX12_isTaken_66 : decode cX12_isTaken 66 = .ok (.imul, 1) := by decide +kernel
theorem dX12_isTaken_67 : decode cX12_isTaken 67 = .ok (.iload 6, 2) := by decide +kernel
theorem dX12_isTaken_69 : decode cX12_isTaken 69 = .ok (.iadd, 1) := by decide +kernel
theorem dX12_isTaken_70 : decode cX12_isTaken 70 = .ok (.iaload, 1) := by decide +kernel
theorem dX12_isTaken_71 : decode cX12_isTaken 71 = .ok (.if_icmp .eq 5, 3) := by decide +kernel
theorem dX12_isTaken_74 : decode cX12_isTaken 74 = .ok (.iconst 0, 1) := by decide +kernel
theorem dX12_isTaken_75 : decode cX12_isTaken 75 = .ok (.ireturn, 1) := by decide +kernel
theorem dX12_isTaken_76 : decode cX12_isTaken 76 = .ok (.iinc 6 1, 3) := by decide +kernel
theorem dX12_isTaken_79 : decode cX12_isTaken 79 = .ok (.goto (-46), 3) := by decide +kernel
theorem dX12_isTaken_82 : decode cX12_isTaken 82 = .ok (.iconst 1, 1) := by decide +kernel
theorem dX12_isTaken_83 : decode cX12_isTaken 83 = .ok (.ireturn, 1) := by decide +kernel
theorem dX12_fineBy_0 : decode cX12_fineBy 0 = .ok (.aload_n 0, 1) := by decide +kernel
theorem dX12_fineBy_1 : decode cX12_fineBy 1 = .ok (.getfield 27, 3) := by decide +kernel
theorem dX12_fineBy_4 : decode cX12_fineBy 4 = .ok (.iload_n 1, 1) := by decide +kernel
theorem dX12_fineBy_5 : decode cX12_fineBy 5 = .ok (.iaload, 1) := by decide +kernel
theorem dX12_fineBy_6 : decode cX12_fineBy 6 = .ok (.iconst 2, 1) := by decide +kernel
theorem dX12_fineBy_7 : decode cX12_fineBy 7 = .ok (.idiv, 1) := by decide +kernel
theorem dX12_fineBy_8 : decode cX12_fineBy 8 = .ok (.iload_n 2, 1) := by decide +kernel
theorem dX12_fineBy_9 : decode cX12_fineBy 9 = .ok (.isub, 1) := by decide +kernel
theorem dX12_fineBy_10 : decode cX12_fineBy 10 = .ok (.istore 4, 2) := by decide +kernel
theorem dX12_fineBy_12 : decode cX12_fineBy 12 = .ok (.aload_n 0, 1) := by decide +kernel
theorem dX12_fineBy_13 : decode cX12_fineBy 13 = .ok (.iload_n 3, 1) := by decide +kernel
theorem dX12_fineBy_14 : decode cX12_fineBy 14 = .ok (.invokevirtual 83, 3) := by decide +kernel
theorem dX12_fineBy_17 : decode cX12_fineBy 17 = .ok (.ifCond .eq 23, 3) := by decide +kernel
theorem dX12_fineBy_20 : decode cX12_fineBy 20 = .ok (.aload_n 0, 1) := by decide +kernel
theorem dX12_fineBy_21 : decode cX12_fineBy 21 = .ok (.getfield 21, 3) := by decide +kernel
theorem dX12_fineBy_24 : decode cX12_fineBy 24 = .ok (.iload_n 1, 1) := by decide +kernel
theorem dX12_fineBy_25 : decode cX12_fineBy 25 = .ok (.iaload, 1) := by decide +kernel
theorem dX12_fineBy_26 : decode cX12_fineBy 26 = .ok (.iconst 1, 1) := by decide +kernel
theorem dX12_fineBy_27 : decode cX12_fineBy 27 = .ok (.if_icmp .eq 13, 3) := by decide +kernel
theorem dX12_fineBy_30 : decode cX12_fineBy 30 = .ok (.iload 4, 2) := by decide +kernel
theorem dX12_fineBy_32 : decode cX12_fineBy 32 = .ok (.ifCond .le 8, 3) := by decide +kernel
theorem dX12_fineBy_35 : decode cX12_fineBy 35 = .ok (.iload 4, 2) := by decide +kernel
theorem dX12_fineBy_37 : decode cX12_fineBy 37 = .ok (.goto 4, 3) := by decide +kernel
theorem dX12_fineBy_40 : decode cX12_fineBy 40 = .ok (.iconst 0, 1) := by decide +kernel
theorem dX12_fineBy_41 : decode cX12_fineBy 41 = .ok (.ireturn, 1) := by decide +kernel
theorem dX12_carries_0 : decode cX12_carries 0 = .ok (.aload_n 0, 1) := by decide +kernel
theorem dX12_carries_1 : decode cX12_carries 1 = .ok (.getfield 21, 3) := by decide +kernel
theorem dX12_carries_4 : decode cX12_carries 4 = .ok (.iload_n 1, 1) := by decide +kernel
theorem dX12_carries_5 : decode cX12_carries 5 = .ok (.iaload, 1) := by decide +kernel
theorem dX12_carries_6 : decode cX12_carries 6 = .ok (.iconst 1, 1) := by decide +kernel
theorem dX12_carries_7 : decode cX12_carries 7 = .ok (.if_icmp .ne 14, 3) := by decide +kernel
theorem dX12_carries_10 : decode cX12_carries 10 = .ok (.aload_n 0, 1) := by decide +kernel
theorem dX12_carries_11 : decode cX12_carries 11 = .ok (.getfield 27, 3) := by decide +kernel
theorem dX12_carries_14 : decode cX12_carries 14 = .ok (.iload_n 1, 1) := by decide +kernel
theorem dX12_carries_15 : decode cX12_carries 15 = .ok (.iaload, 1) := by decide +kernel
theorem dX12_carries_16 : decode cX12_carries 16 = .ok (.iconst 3, 1) := by decide +kernel
theorem dX12_carries_17 : decode cX12_carries 17 = .ok (.idiv, 1) := by decide +kernel
theorem dX12_carries_18 : decode cX12_carries 18 = .ok (.goto 4, 3) := by decide +kernel
theorem dX12_carries_21 : decode cX12_carries 21 = .ok (.iconst 0, 1) := by decide +kernel
theorem dX12_carries_22 : decode cX12_carries 22 = .ok (.ireturn, 1) := by decide +kernel
theorem dX12_joins_0 : decode cX12_joins 0 = .ok (.iconst 0, 1) := by decide +kernel
theorem dX12_joins_1 : decode cX12_joins 1 = .ok (.istore_n 1, 1) := by decide +kernel
theorem dX12_joins_2 : decode cX12_joins 2 = .ok (.iload_n 1, 1) := by decide +kernel
theorem dX12_joins_3 : decode cX12_joins 3 = .ok (.bipush 36, 2) := by decide +kernel
theorem dX12_joins_5 : decode cX12_joins 5 = .ok (.if_icmp .ge 50, 3) := by decide +kernel
theorem dX12_joins_8 : decode cX12_joins 8 = .ok (.aload_n 0, 1) := by decide +kernel
theorem dX12_joins_9 : decode cX12_joins 9 = .ok (.getfield 18, 3) := by decide +kernel
theorem dX12_joins_12 : decode cX12_joins 12 = .ok (.iload_n 1, 1) := by decide +kernel
theorem dX12_joins_13 : decode cX12_joins 13 = .ok (.iload_n 1, 1) := by decide +kernel
theorem dX12_joins_14 : decode cX12_joins 14 = .ok (.bipush 6, 2) := by decide +kernel
theorem dX12_joins_16 : decode cX12_joins 16 = .ok (.idiv, 1) := by decide +kernel
theorem dX12_joins_17 : decode cX12_joins 17 = .ok (.iload_n 1, 1) := by decide +kernel
theorem dX12_joins_18 : decode cX12_joins 18 = .ok (.bipush 6, 2) := by decide +kernel
theorem dX12_joins_20 : decode cX12_joins 20 = .ok (.irem, 1) := by decide +kernel
theorem dX12_joins_21 : decode cX12_joins 21 = .ok (.if_icmp .ne 7, 3) := by decide +kernel
theorem dX12_joins_24 : decode cX12_joins 24 = .ok (.iconst 0, 1) := by decide +kernel
theorem dX12_joins_25 : decode cX12_joins 25 = .ok (.goto 23, 3) := by decide +kernel
theorem dX12_joins_28 : decode cX12_joins 28 = .ok (.aload_n 0, 1) := by decide +kernel
theorem dX12_joins_29 : decode cX12_joins 29 = .ok (.getfield 15, 3) := by decide +kernel
theorem dX12_joins_32 : decode cX12_joins 32 = .ok (.iload_n 1, 1) := by decide +kernel
theorem dX12_joins_33 : decode cX12_joins 33 = .ok (.iaload, 1) := by decide +kernel
theorem dX12_joins_34 : decode cX12_joins 34 = .ok (.ifCond .le 12, 3) := by decide +kernel
theorem dX12_joins_37 : decode cX12_joins 37 = .ok (.aload_n 0, 1) := by decide +kernel
theorem dX12_joins_38 : decode cX12_joins 38 = .ok (.getfield 15, 3) := by decide +kernel
theorem dX12_joins_41 : decode cX12_joins 41 = .ok (.iload_n 1, 1) := by decide +kernel
theorem dX12_joins_42 : decode cX12_joins 42 = .ok (.iaload, 1) := by decide +kernel
theorem dX12_joins_43 : decode cX12_joins 43 = .ok (.goto 5, 3) := by decide +kernel
theorem dX12_joins_46 : decode cX12_joins 46 = .ok (.ldc 99, 2) := by decide +kernel
theorem dX12_joins_48 : decode cX12_joins 48 = .ok (.iastore, 1) := by decide +kernel
theorem dX12_joins_49 : decode cX12_joins 49 = .ok (.iinc 1 1, 3) := by decide +kernel
theorem dX12_joins_52 : decode cX12_joins 52 = .ok (.goto (-50), 3) := by decide +kernel
theorem dX12_joins_55 : decode cX12_joins 55 = .ok (.iconst 0, 1) := by decide +kernel
theorem dX12_joins_56 : decode cX12_joins 56 = .ok (.istore_n 1, 1) := by decide +kernel
theorem dX12_joins_57 : decode cX12_joins 57 = .ok (.iload_n 1, 1) := by decide +kernel
theorem dX12_joins_58 : decode cX12_joins 58 = .ok (.aload_n 0, 1) := by decide +kernel
theorem dX12_joins_59 : decode cX12_joins 59 = .ok (.getfield 100, 3) := by decide +kernel
theorem dX12_joins_62 : decode cX12_joins 62 = .ok (.if_icmp .ge 95, 3) := by decide +kernel
theorem dX12_joins_65 : decode cX12_joins 65 = .ok (.iconst 0, 1) := by decide +kernel
theorem dX12_joins_66 : decode cX12_joins 66 = .ok (.istore_n 2, 1) := by decide +kernel
theorem dX12_joins_67 : decode cX12_joins 67 = .ok (.iload_n 2, 1) := by decide +kernel
theorem dX12_joins_68 : decode cX12_joins 68 = .ok (.aload_n 0, 1) := by decide +kernel
theorem dX12_joins_69 : decode cX12_joins 69 = .ok (.getfield 100, 3) := by decide +kernel
theorem dX12_joins_72 : decode cX12_joins 72 = .ok (.if_icmp .ge 79, 3) := by decide +kernel
theorem dX12_joins_75 : decode cX12_joins 75 = .ok (.iconst 0, 1) := by decide +kernel
theorem dX12_joins_76 : decode cX12_joins 76 = .ok (.istore_n 3, 1) := by decide +kernel
theorem dX12_joins_77 : decode cX12_joins 77 = .ok (.iload_n 3, 1) := by decide +kernel
theorem dX12_joins_78 : decode cX12_joins 78 = .ok (.aload_n 0, 1) := by decide +kernel
theorem dX12_joins_79 : decode cX12_joins 79 = .ok (.getfield 100, 3) := by decide +kernel
theorem dX12_joins_82 : decode cX12_joins 82 = .ok (.if_icmp .ge 63, 3) := by decide +kernel
theorem dX12_joins_85 : decode cX12_joins 85 = .ok (.aload_n 0, 1) := by decide +kernel
theorem dX12_joins_86 : decode cX12_joins 86 = .ok (.getfield 18, 3) := by decide +kernel
theorem dX12_joins_89 : decode cX12_joins 89 = .ok (.bipush 6, 2) := by decide +kernel
theorem dX12_joins_91 : decode cX12_joins 91 = .ok (.iload_n 2, 1) := by decide +kernel
theorem dX12_joins_92 : decode cX12_joins 92 = .ok (.imul, 1) := by decide +kernel
theorem dX12_joins_93 : decode cX12_joins 93 = .ok (.iload_n 1, 1) := by decide +kernel
theorem dX12_joins_94 : decode cX12_joins 94 = .ok (.iadd, 1) := by decide +kernel
theorem dX12_joins_95 : decode cX12_joins 95 = .ok (.iaload, 1) := by decide +kernel
theorem dX12_joins_96 : decode cX12_joins 96 = .ok (.aload_n 0, 1) := by decide +kernel
theorem dX12_joins_97 : decode cX12_joins 97 = .ok (.getfield 18, 3) := by decide +kernel
theorem dX12_joins_100 : decode cX12_joins 100 = .ok (.bipush 6, 2) := by decide +kernel
theorem dX12_joins_102 : decode cX12_joins 102 = .ok (.iload_n 1, 1) := by decide +kernel
theorem dX12_joins_103 : decode cX12_joins 103 = .ok (.imul, 1) := by decide +kernel
theorem dX12_joins_104 : decode cX12_joins 104 = .ok (.iload_n 3, 1) := by decide +kernel
theorem dX12_joins_105 : decode cX12_joins 105 = .ok (.iadd, 1) := by decide +kernel
theorem dX12_joins_106 : decode cX12_joins 106 = .ok (.iaload, 1) := by decide +kernel
theorem dX12_joins_107 : decode cX12_joins 107 = .ok (.iadd, 1) := by decide +kernel
theorem dX12_joins_108 : decode cX12_joins 108 = .ok (.istore 4, 2) := by decide +kernel
theorem dX12_joins_110 : decode cX12_joins 110 = .ok (.iload 4, 2) := by decide +kernel
theorem dX12_joins_112 : decode cX12_joins 112 = .ok (.aload_n 0, 1) := by decide +kernel
theorem dX12_joins_113 : decode cX12_joins 113 = .ok (.getfield 18, 3) := by decide +kernel
theorem dX12_joins_116 : decode cX12_joins 116 = .ok (.bipush 6, 2) := by decide +kernel
theorem dX12_joins_118 : decode cX12_joins 118 = .ok (.iload_n 2, 1) := by decide +kernel
theorem dX12_joins_119 : decode cX12_joins 119 = .ok (.imul, 1) := by decide +kernel
theorem dX12_joins_120 : decode cX12_joins 120 = .ok (.iload_n 3, 1) := by decide +kernel
theorem dX12_joins_121 : decode cX12_joins 121 = .ok (.iadd, 1) := by decide +kernel
theorem dX12_joins_122 : decode cX12_joins 122 = .ok (.iaload, 1) := by decide +kernel
theorem dX12_joins_123 : decode cX12_joins 123 = .ok (.if_icmp .ge 16, 3) := by decide +kernel
theorem dX12_joins_126 : decode cX12_joins 126 = .ok (.aload_n 0, 1) := by decide +kernel
theorem dX12_joins_127 : decode cX12_joins 127 = .ok (.getfield 18, 3) := by decide +kernel
theorem dX12_joins_130 : decode cX12_joins 130 = .ok (.bipush 6, 2) := by decide +kernel
theorem dX12_joins_132 : decode cX12_joins 132 = .ok (.iload_n 2, 1) := by decide +kernel
theorem dX12_joins_133 : decode cX12_joins 133 = .ok (.imul, 1) := by decide +kernel
theorem dX12_joins_134 : decode cX12_joins 134 = .ok (.iload_n 3, 1) := by decide +kernel
theorem dX12_joins_135 : decode cX12_joins 135 = .ok (.iadd, 1) := by decide +kernel
theorem dX12_joins_136 : decode cX12_joins 136 = .ok (.iload 4, 2) := by decide +kernel
theorem dX12_joins_138 : decode cX12_joins 138 = .ok (.iastore, 1) := by decide +kernel
theorem dX12_joins_139 : decode cX12_joins 139 = .ok (.iinc 3 1, 3) := by decide +kernel
theorem dX12_joins_142 : decode cX12_joins 142 = .ok (.goto (-65), 3) := by decide +kernel
theorem dX12_joins_145 : decode cX12_joins 145 = .ok (.iinc 2 1, 3) := by decide +kernel
theorem dX12_joins_148 : decode cX12_joins 148 = .ok (.goto (-81), 3) := by decide +kernel
theorem dX12_joins_151 : decode cX12_joins 151 = .ok (.iinc 1 1, 3) := by decide +kernel
theorem dX12_joins_154 : decode cX12_joins 154 = .ok (.goto (-97), 3) := by decide +kernel
theorem dX12_joins_157 : decode cX12_joins 157 = .ok (.return_, 1) := by decide +kernel
theorem dX12_far_0 : decode cX12_far 0 = .ok (.aload_n 0, 1) := by decide +kernel
theorem dX12_far_1 : decode cX12_far 1 = .ok (.getfield 18, 3) := by decide +kernel
theorem dX12_far_4 : decode cX12_far 4 = .ok (.bipush 6, 2) := by decide +kernel
theorem dX12_far_6 : decode cX12_far 6 = .ok (.iload_n 1, 1) := by decide +kernel
theorem dX12_far_7 : decode cX12_far 7 = .ok (.imul, 1) := by decide +kernel
theorem dX12_far_8 : decode cX12_far 8 = .ok (.iload_n 2, 1) := by decide +kernel
theorem dX12_far_9 : decode cX12_far 9 = .ok (.iadd, 1) := by decide +kernel
theorem dX12_far_10 : decode cX12_far 10 = .ok (.iaload, 1) := by decide +kernel
theorem dX12_far_11 : decode cX12_far 11 = .ok (.ireturn, 1) := by decide +kernel
