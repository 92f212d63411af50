theorem dX9_init_0 : decode cX9_init 0 = .ok (.aload_n 0, 1) := by decide +kernel
theorem dX9_init_1 : decode cX9_init 1 = .ok (.invokespecial 3, 3) := by decide +kernel
theorem dX9_init_4 : decode cX9_init 4 = .ok (.aload_n 0, 1) := by decide +kernel
theorem dX9_init_5 : decode cX9_init 5 = .ok (.iconst 0, 1) := by decide +kernel
theorem dX9_init_6 : decode cX9_init 6 = .ok (.putfield 9, 3) := by decide +kernel
theorem dX9_init_9 : decode cX9_init 9 = .ok (.aload_n 0, 1) := by decide +kernel
theorem dX9_init_10 : decode cX9_init 10 = .ok (.iconst 0, 1) := by decide +kernel
theorem dX9_init_11 : decode cX9_init 11 = .ok (.putfield 15, 3) := by decide +kernel
theorem dX9_init_14 : decode cX9_init 14 = .ok (.aload_n 0, 1) := by decide +kernel
theorem dX9_init_15 : decode cX9_init 15 = .ok (.iconst 0, 1) := by decide +kernel
theorem dX9_init_16 : decode cX9_init 16 = .ok (.putfield 19, 3) := by decide +kernel
theorem dX9_init_19 : decode cX9_init 19 = .ok (.aload_n 0, 1) := by decide +kernel
theorem dX9_init_20 : decode cX9_init 20 = .ok (.iconst 0, 1) := by decide +kernel
theorem dX9_init_21 : decode cX9_init 21 = .ok (.putfield 22, 3) := by decide +kernel
theorem dX9_init_24 : decode cX9_init 24 = .ok (.aload_n 0, 1) := by decide +kernel
theorem dX9_init_25 : decode cX9_init 25 = .ok (.iconst 0, 1) := by decide +kernel
theorem dX9_init_26 : decode cX9_init 26 = .ok (.putfield 25, 3) := by decide +kernel
theorem dX9_init_29 : decode cX9_init 29 = .ok (.aload_n 0, 1) := by decide +kernel
theorem dX9_init_30 : decode cX9_init 30 = .ok (.iconst 0, 1) := by decide +kernel
theorem dX9_init_31 : decode cX9_init 31 = .ok (.putfield 28, 3) := by decide +kernel
theorem dX9_init_34 : decode cX9_init 34 = .ok (.aload_n 0, 1) := by decide +kernel
theorem dX9_init_35 : decode cX9_init 35 = .ok (.iconst 0, 1) := by decide +kernel
theorem dX9_init_36 : decode cX9_init 36 = .ok (.putfield 31, 3) := by decide +kernel
theorem dX9_init_39 : decode cX9_init 39 = .ok (.aload_n 0, 1) := by decide +kernel
theorem dX9_init_40 : decode cX9_init 40 = .ok (.iconst 0, 1) := by decide +kernel
theorem dX9_init_41 : decode cX9_init 41 = .ok (.putfield 34, 3) := by decide +kernel
theorem dX9_init_44 : decode cX9_init 44 = .ok (.aload_n 0, 1) := by decide +kernel
theorem dX9_init_45 : decode cX9_init 45 = .ok (.iconst 0, 1) := by decide +kernel
theorem dX9_init_46 : decode cX9_init 46 = .ok (.putfield 37, 3) := by decide +kernel
theorem dX9_init_49 : decode cX9_init 49 = .ok (.aload_n 0, 1) := by decide +kernel
theorem dX9_init_50 : decode cX9_init 50 = .ok (.bipush 6, 2) := by decide +kernel
theorem dX9_init_52 : decode cX9_init 52 = .ok (.newarray .int, 2) := by decide +kernel
theorem dX9_init_54 : decode cX9_init 54 = .ok (.putfield 40, 3) := by decide +kernel
theorem dX9_init_57 : decode cX9_init 57 = .ok (.aload_n 0, 1) := by decide +kernel
theorem dX9_init_58 : decode cX9_init 58 = .ok (.new 44, 3) := by decide +kernel
theorem dX9_init_61 : decode cX9_init 61 = .ok (.dup, 1) := by decide +kernel
theorem dX9_init_62 : decode cX9_init 62 = .ok (.invokespecial 46, 3) := by decide +kernel
theorem dX9_init_65 : decode cX9_init 65 = .ok (.putfield 47, 3) := by decide +kernel
theorem dX9_init_68 : decode cX9_init 68 = .ok (.aload_n 0, 1) := by decide +kernel
theorem dX9_init_69 : decode cX9_init 69 = .ok (.bipush 6, 2) := by decide +kernel
theorem dX9_init_71 : decode cX9_init 71 = .ok (.anewarray 51, 3) := by decide +kernel
theorem dX9_init_74 : decode cX9_init 74 = .ok (.putfield 53, 3) := by decide +kernel
theorem dX9_init_77 : decode cX9_init 77 = .ok (.aload_n 0, 1) := by decide +kernel
theorem dX9_init_78 : decode cX9_init 78 = .ok (.iconst 5, 1) := by decide +kernel
theorem dX9_init_79 : decode cX9_init 79 = .ok (.anewarray 57, 3) := by decide +kernel
theorem dX9_init_82 : decode cX9_init 82 = .ok (.putfield 59, 3) := by decide +kernel
theorem dX9_init_85 : decode cX9_init 85 = .ok (.aload_n 0, 1) := by decide +kernel
theorem dX9_init_86 : decode cX9_init 86 = .ok (.bipush 8, 2) := by decide +kernel
theorem dX9_init_88 : decode cX9_init 88 = .ok (.anewarray 63, 3) := by decide +kernel
theorem dX9_init_91 : decode cX9_init 91 = .ok (.putfield 65, 3) := by decide +kernel
theorem dX9_init_94 : decode cX9_init 94 = .ok (.aload_n 0, 1) := by decide +kernel
theorem dX9_init_95 : decode cX9_init 95 = .ok (.iconst 5, 1) := by decide +kernel
theorem dX9_init_96 : decode cX9_init 96 = .ok (.anewarray 69, 3) := by decide +kernel
theorem dX9_init_99 : decode cX9_init 99 = .ok (.putfield 71, 3) := by decide +kernel
theorem dX9_init_102 : decode cX9_init 102 = .ok (.aload_n 0, 1) := by decide +kernel
theorem dX9_init_103 : decode cX9_init 103 = .ok (.bipush 6, 2) := by decide +kernel
theorem dX9_init_105 : decode cX9_init 105 = .ok (.newarray .int, 2) := by decide +kernel
theorem dX9_init_107 : decode cX9_init 107 = .ok (.putfield 75, 3) := by decide +kernel
theorem dX9_init_110 : decode cX9_init 110 = .ok (.iconst 0, 1) := by decide +kernel
theorem dX9_init_111 : decode cX9_init 111 = .ok (.istore_n 1, 1) := by decide +kernel
theorem dX9_init_112 : decode cX9_init 112 = .ok (.iload_n 1, 1) := by decide +kernel
theorem dX9_init_113 : decode cX9_init 113 = .ok (.bipush 6, 2) := by decide +kernel
theorem dX9_init_115 : decode cX9_init 115 = .ok (.if_icmp .ge 22, 3) := by decide +kernel
theorem dX9_init_118 : decode cX9_init 118 = .ok (.aload_n 0, 1) := by decide +kernel
theorem dX9_init_119 : decode cX9_init 119 = .ok (.getfield 53, 3) := by decide +kernel
theorem dX9_init_122 : decode cX9_init 122 = .ok (.iload_n 1, 1) := by decide +kernel
theorem dX9_init_123 : decode cX9_init 123 = .ok (.new 51, 3) := by decide +kernel
theorem dX9_init_126 : decode cX9_init 126 = .ok (.dup, 1) := by decide +kernel
theorem dX9_init_127 : decode cX9_init 127 = .ok (.invokespecial 78, 3) := by decide +kernel
theorem dX9_init_130 : decode cX9_init 130 = .ok (.aastore, 1) := by decide +kernel
theorem dX9_init_131 : decode cX9_init 131 = .ok (.iinc 1 1, 3) := by decide +kernel
theorem dX9_init_134 : decode cX9_init 134 = .ok (.goto (-22), 3) := by decide +kernel
theorem dX9_init_137 : decode cX9_init 137 = .ok (.iconst 0, 1) := by decide +kernel
theorem dX9_init_138 : decode cX9_init 138 = .ok (.istore_n 1, 1) := by decide +kernel
theorem dX9_init_139 : decode cX9_init 139 = .ok (.iload_n 1, 1) := by decide +kernel
theorem dX9_init_140 : decode cX9_init 140 = .ok (.iconst 5, 1) := by decide +kernel
theorem dX9_init_141 : decode cX9_init 141 = .ok (.if_icmp .ge 22, 3) := by decide +kernel
theorem dX9_init_144 : decode cX9_init 144 = .ok (.aload_n 0, 1) := by decide +kernel
theorem dX9_init_145 : decode cX9_init 145 = .ok (.getfield 59, 3) := by decide +kernel
theorem dX9_init_148 : decode cX9_init 148 = .ok (.iload_n 1, 1) := by decide +kernel
theorem dX9_init_149 : decode cX9_init 149 = .ok (.new 57, 3) := by decide +kernel
theorem dX9_init_152 : decode cX9_init 152 = .ok (.dup, 1) := by decide +kernel
theorem dX9_init_153 : decode cX9_init 153 = .ok (.invokespecial 79, 3) := by decide +kernel
theorem dX9_init_156 : decode cX9_init 156 = .ok (.aastore, 1) := by decide +kernel
theorem dX9_init_157 : decode cX9_init 157 = .ok (.iinc 1 1, 3) := by decide +kernel
theorem dX9_init_160 : decode cX9_init 160 = .ok (.goto (-21), 3) := by decide +kernel
theorem dX9_init_163 : decode cX9_init 163 = .ok (.iconst 0, 1) := by decide +kernel
theorem dX9_init_164 : decode cX9_init 164 = .ok (.istore_n 1, 1) := by decide +kernel
theorem dX9_init_165 : decode cX9_init 165 = .ok (.iload_n 1, 1) := by decide +kernel
theorem dX9_init_166 : decode cX9_init 166 = .ok (.bipush 8, 2) := by decide +kernel
theorem dX9_init_168 : decode cX9_init 168 = .ok (.if_icmp .ge 22, 3) := by decide +kernel
theorem dX9_init_171 : decode cX9_init 171 = .ok (.aload_n 0, 1) := by decide +kernel
theorem dX9_init_172 : decode cX9_init 172 = .ok (.getfield 65, 3) := by decide +kernel
theorem dX9_init_175 : decode cX9_init 175 = .ok (.iload_n 1, 1) := by decide +kernel
theorem dX9_init_176 : decode cX9_init 176 = .ok (.new 63, 3) := by decide +kernel
theorem dX9_init_179 : decode cX9_init 179 = .ok (.dup, 1) := by decide +kernel
theorem dX9_init_180 : decode cX9_init 180 = .ok (.invokespecial 80, 3) := by decide +kernel
theorem dX9_init_183 : decode cX9_init 183 = .ok (.aastore, 1) := by decide +kernel
theorem dX9_init_184 : decode cX9_init 184 = .ok (.iinc 1 1, 3) := by decide +kernel
theorem dX9_init_187 : decode cX9_init 187 = .ok (.goto (-22), 3) := by decide +kernel
theorem dX9_init_190 : decode cX9_init 190 = .ok (.iconst 0, 1) := by decide +kernel
theorem dX9_init_191 : decode cX9_init 191 = .ok (.istore_n 1, 1) := by decide +kernel
theorem dX9_init_192 : decode cX9_init 192 = .ok (.iload_n 1, 1) := by decide +kernel
theorem dX9_init_193 : decode cX9_init 193 = .ok (.iconst 5, 1) := by decide +kernel
theorem dX9_init_194 : decode cX9_init 194 = .ok (.if_icmp .ge 22, 3) := by decide +kernel
theorem dX9_init_197 : decode cX9_init 197 = .ok (.aload_n 0, 1) := by decide +kernel
theorem dX9_init_198 : decode cX9_init 198 = .ok (.getfield 71, 3) := by decide +kernel
theorem dX9_init_201 : decode cX9_init 201 = .ok (.iload_n 1, 1) := by decide +kernel
theorem dX9_init_202 : decode cX9_init 202 = .ok (.new 69, 3) := by decide +kernel
theorem dX9_init_205 : decode cX9_init 205 = .ok (.dup, 1) := by decide +kernel
theorem dX9_init_206 : decode cX9_init 206 = .ok (.invokespecial 81, 3) := by decide +kernel
theorem dX9_init_209 : decode cX9_init 209 = .ok (.aastore, 1) := by decide +kernel
theorem dX9_init_210 : decode cX9_init 210 = .ok (.iinc 1 1, 3) := by decide +kernel
theorem dX9_init_213 : decode cX9_init 213 = .ok (.goto (-21), 3) := by decide +kernel
theorem dX9_init_216 : decode cX9_init 216 = .ok (.return_, 1) := by decide +kernel
theorem dX9_clear_0 : decode cX9_clear 0 = .ok (.aload_n 0, 1) := by decide +kernel
theorem dX9_clear_1 : decode cX9_clear 1 = .ok (.iconst 0, 1) := by decide +kernel
theorem dX9_clear_2 : decode cX9_clear 2 = .ok (.putfield 9, 3) := by decide +kernel
theorem dX9_clear_5 : decode cX9_clear 5 = .ok (.aload_n 0, 1) := by decide +kernel
theorem dX9_clear_6 : decode cX9_clear 6 = .ok (.iconst 0, 1) := by decide +kernel
theorem dX9_clear_7 : decode cX9_clear 7 = .ok (.putfield 25, 3) := by decide +kernel
theorem dX9_clear_10 : decode cX9_clear 10 = .ok (.aload_n 0, 1) := by decide +kernel
theorem dX9_clear_11 : decode cX9_clear 11 = .ok (.iconst 0, 1) := by decide +kernel
theorem dX9_clear_12 : decode cX9_clear 12 = .ok (.putfield 28, 3) := by decide +kernel
theorem dX9_clear_15 : decode cX9_clear 15 = .ok (.aload_n 0, 1) := by decide +kernel
theorem dX9_clear_16 : decode cX9_clear 16 = .ok (.iconst 0, 1) := by decide +kernel
theorem dX9_clear_17 : decode cX9_clear 17 = .ok (.putfield 31, 3) := by decide +kernel
theorem dX9_clear_20 : decode cX9_clear 20 = .ok (.aload_n 0, 1) := by decide +kernel
theorem dX9_clear_21 : decode cX9_clear 21 = .ok (.iconst 0, 1) := by decide +kernel
theorem dX9_clear_22 : decode cX9_clear 22 = .ok (.putfield 34, 3) := by decide +kernel
theorem dX9_clear_25 : decode cX9_clear 25 = .ok (.aload_n 0, 1) := by decide +kernel
theorem dX9_clear_26 : decode cX9_clear 26 = .ok (.iconst 0, 1) := by decide +kernel
theorem dX9_clear_27 : decode cX9_clear 27 = .ok (.putfield 37, 3) := by decide +kernel
theorem dX9_clear_30 : decode cX9_clear 30 = .ok (.aload_n 0, 1) := by decide +kernel
theorem dX9_clear_31 : decode cX9_clear 31 = .ok (.getfield 47, 3) := by decide +kernel
theorem dX9_clear_34 : decode cX9_clear 34 = .ok (.invokevirtual 82, 3) := by decide +kernel
theorem dX9_clear_37 : decode cX9_clear 37 = .ok (.return_, 1) := by decide +kernel
theorem dX9_isDay_0 : decode cX9_isDay 0 = .ok (.iload_n 1, 1) := by decide +kernel
theorem dX9_isDay_1 : decode cX9_isDay 1 = .ok (.aload_n 0, 1) := by decide +kernel
theorem dX9_isDay_2 : decode cX9_isDay 2 = .ok (.getfield 15, 3) := by decide +kernel
theorem dX9_isDay_5 : decode cX9_isDay 5 = .ok (.if_icmp .lt 15, 3) := by decide +kernel
theorem dX9_isDay_8 : decode cX9_isDay 8 = .ok (.iload_n 1, 1) := by decide +kernel
theorem dX9_isDay_9 : decode cX9_isDay 9 = .ok (.aload_n 0, 1) := by decide +kernel
theorem dX9_isDay_10 : decode cX9_isDay 10 = .ok (.getfield 19, 3) := by decide +kernel
theorem dX9_isDay_13 : decode cX9_isDay 13 = .ok (.if_icmp .ge 7, 3) := by decide +kernel
theorem dX9_isDay_16 : decode cX9_isDay 16 = .ok (.iconst 1, 1) := by decide +kernel
theorem dX9_isDay_17 : decode cX9_isDay 17 = .ok (.goto 4, 3) := by decide +kernel
theorem dX9_isDay_20 : decode cX9_isDay 20 = .ok (.iconst 0, 1) := by decide +kernel
theorem dX9_isDay_21 : decode cX9_isDay 21 = .ok (.ireturn, 1) := by decide +kernel
theorem dX9_gap_0 : decode cX9_gap 0 = .ok (.aload_n 0, 1) := by decide +kernel
theorem dX9_gap_1 : decode cX9_gap 1 = .ok (.getfield 22, 3) := by decide +kernel
theorem dX9_gap_4 : decode cX9_gap 4 = .ok (.aload_n 0, 1) := by decide +kernel
theorem dX9_gap_5 : decode cX9_gap 5 = .ok (.getfield 40, 3) := by decide +kernel
theorem dX9_gap_8 : decode cX9_gap 8 = .ok (.iload_n 1, 1) := by decide +kernel
theorem dX9_gap_9 : decode cX9_gap 9 = .ok (.iaload, 1) := by decide +kernel
theorem dX9_gap_10 : decode cX9_gap 10 = .ok (.isub, 1) := by decide +kernel
theorem dX9_gap_11 : decode cX9_gap 11 = .ok (.ireturn, 1) := by decide +kernel
theorem dX9_passesBoth_0 : decode cX9_passesBoth 0 = .ok (.iload_n 1, 1) := by decide +kernel
theorem dX9_passesBoth_1 : decode cX9_passesBoth 1 = .ok (.aload_n 0, 1) := by decide +kernel
theorem dX9_passesBoth_2 : decode cX9_passesBoth 2 = .ok (.iload_n 2, 1) := by decide +kernel
theorem dX9_passesBoth_3 : decode cX9_passesBoth 3 = .ok (.invokevirtual 85, 3) := by decide +kernel
theorem dX9_passesBoth_6 : decode cX9_passesBoth 6 = .ok (.if_icmp .gt 16, 3) := by decide +kernel
theorem dX9_passesBoth_9 : decode cX9_passesBoth 9 = .ok (.iload_n 1, 1) := by decide +kernel
theorem dX9_passesBoth_10 : decode cX9_passesBoth 10 = .ok (.aload_n 0, 1) := by decide +kernel
theorem dX9_passesBoth_11 : decode cX9_passesBoth 11 = .ok (.iload_n 3, 1) := by decide +kernel
theorem dX9_passesBoth_12 : decode cX9_passesBoth 12 = .ok (.invokevirtual 85, 3) := by decide +kernel
theorem dX9_passesBoth_15 : decode cX9_passesBoth 15 = .ok (.if_icmp .gt 7, 3) := by decide +kernel
theorem dX9_passesBoth_18 : decode cX9_passesBoth 18 = .ok (.iconst 1, 1) := by decide +kernel
theorem dX9_passesBoth_19 : decode cX9_passesBoth 19 = .ok (.goto 4, 3) := by decide +kernel
theorem dX9_passesBoth_22 : decode cX9_passesBoth 22 = .ok (.iconst 0, 1) := by decide +kernel
theorem dX9_passesBoth_23 : decode cX9_passesBoth 23 = .ok (.ireturn, 1) := by decide +kernel
theorem dX9_piecesOf_0 : decode cX9_piecesOf 0 = .ok (.aload_n 0, 1) := by decide +kernel
theorem dX9_piecesOf_1 : decode cX9_piecesOf 1 = .ok (.getfield 59, 3) := by decide +kernel
theorem dX9_piecesOf_4 : decode cX9_piecesOf 4 = .ok (.iload_n 1, 1) := by decide +kernel
theorem dX9_piecesOf_5 : decode cX9_piecesOf 5 = .ok (.aaload, 1) := by decide +kernel
theorem dX9_piecesOf_6 : decode cX9_piecesOf 6 = .ok (.astore_n 2, 1) := by decide +kernel
theorem dX9_piecesOf_7 : decode cX9_piecesOf 7 = .ok (.iconst 1, 1) := by decide +kernel
theorem dX9_piecesOf_8 : decode cX9_piecesOf 8 = .ok (.istore_n 3, 1) := by decide +kernel
theorem dX9_piecesOf_9 : decode cX9_piecesOf 9 = .ok (.iload_n 3, 1) := by decide +kernel
theorem dX9_piecesOf_10 : decode cX9_piecesOf 10 = .ok (.aload_n 2, 1) := by decide +kernel
theorem dX9_piecesOf_11 : decode cX9_piecesOf 11 = .ok (.getfield 89, 3) := by decide +kernel
theorem dX9_piecesOf_14 : decode cX9_piecesOf 14 = .ok (.if_icmp .ge 40, 3) := by decide +kernel
theorem dX9_piecesOf_17 : decode cX9_piecesOf 17 = .ok (.aload_n 2, 1) := by decide +kernel
theorem dX9_piecesOf_18 : decode cX9_piecesOf 18 = .ok (.getfield 89, 3) := by decide +kernel
theorem dX9_piecesOf_21 : decode cX9_piecesOf 21 = .ok (.iload_n 3, 1) := by decide +kernel
theorem dX9_piecesOf_22 : decode cX9_piecesOf 22 = .ok (.iadd, 1) := by decide +kernel
theorem dX9_piecesOf_23 : decode cX9_piecesOf 23 = .ok (.iconst 1, 1) := by decide +kernel
theorem dX9_piecesOf_24 : decode cX9_piecesOf 24 = .ok (.isub, 1) := by decide +kernel
theorem dX9_piecesOf_25 : decode cX9_piecesOf 25 = .ok (.iload_n 3, 1) := by decide +kernel
theorem dX9_piecesOf_26 : decode cX9_piecesOf 26 = .ok (.idiv, 1) := by decide +kernel
theorem dX9_piecesOf_27 : decode cX9_piecesOf 27 = .ok (.istore 4, 2) := by decide +kernel
theorem dX9_piecesOf_29 : decode cX9_piecesOf 29 = .ok (.aload_n 0, 1) := by decide +kernel
theorem dX9_piecesOf_30 : decode cX9_piecesOf 30 = .ok (.iload 4, 2) := by decide +kernel
theorem dX9_piecesOf_32 : decode cX9_piecesOf 32 = .ok (.aload_n 2, 1) := by decide +kernel
theorem dX9_piecesOf_33 : decode cX9_piecesOf 33 = .ok (.getfield 92, 3) := by decide +kernel
theorem dX9_piecesOf_36 : decode cX9_piecesOf 36 = .ok (.aload_n 2, 1) := by decide +kernel
theorem dX9_piecesOf_37 : decode cX9_piecesOf 37 = .ok (.getfield 95, 3) := by decide +kernel
theorem dX9_piecesOf_40 : decode cX9_piecesOf 40 = .ok (.invokevirtual 98, 3) := by decide +kernel
theorem dX9_piecesOf_43 : decode cX9_piecesOf 43 = .ok (.ifCond .eq 5, 3) := by decide +kernel
theorem dX9_piecesOf_46 : decode cX9_piecesOf 46 = .ok (.iload_n 3, 1) := by decide +kernel
theorem dX9_piecesOf_47 : decode cX9_piecesOf 47 = .ok (.ireturn, 1) := by decide +kernel
theorem dX9_piecesOf_48 : decode cX9_piecesOf 48 = .ok (.iinc 3 1, 3) := by decide +kernel
theorem dX9_piecesOf_51 : decode cX9_piecesOf 51 = .ok (.goto (-42), 3) := by decide +kernel
theorem dX9_piecesOf_54 : decode cX9_piecesOf 54 = .ok (.aload_n 2, 1) := by decide +kernel
theorem dX9_piecesOf_55 : decode cX9_piecesOf 55 = .ok (.getfield 89, 3) := by decide +kernel
theorem dX9_piecesOf_58 : decode cX9_piecesOf 58 = .ok (.ireturn, 1) := by decide +kernel
theorem dX9_doublesOf_0 : decode cX9_doublesOf 0 = .ok (.iconst 0, 1) := by decide +kernel
theorem dX9_doublesOf_1 : decode cX9_doublesOf 1 = .ok (.istore 4, 2) := by decide +kernel
theorem dX9_doublesOf_3 : decode cX9_doublesOf 3 = .ok (.iconst 0, 1) := by decide +kernel
theorem dX9_doublesOf_4 : decode cX9_doublesOf 4 = .ok (.istore 5, 2) := by decide +kernel
theorem dX9_doublesOf_6 : decode cX9_doublesOf 6 = .ok (.iload 5, 2) := by decide +kernel
theorem dX9_doublesOf_8 : decode cX9_doublesOf 8 = .ok (.aload_n 0, 1) := by decide +kernel
theorem dX9_doublesOf_9 : decode cX9_doublesOf 9 = .ok (.getfield 28, 3) := by decide +kernel
theorem dX9_doublesOf_12 : decode cX9_doublesOf 12 = .ok (.if_icmp .ge 45, 3) := by decide +kernel
theorem dX9_doublesOf_15 : decode cX9_doublesOf 15 = .ok (.iload 5, 2) := by decide +kernel
theorem dX9_doublesOf_17 : decode cX9_doublesOf 17 = .ok (.iload_n 1, 1) := by decide +kernel
theorem dX9_doublesOf_18 : decode cX9_doublesOf 18 = .ok (.if_icmp .eq 33, 3) := by decide +kernel
theorem dX9_doublesOf_21 : decode cX9_doublesOf 21 = .ok (.aload_n 0, 1) := by decide +kernel
theorem dX9_doublesOf_22 : decode cX9_doublesOf 22 = .ok (.getfield 53, 3) := by decide +kernel
theorem dX9_doublesOf_25 : decode cX9_doublesOf 25 = .ok (.iload_n 1, 1) := by decide +kernel
theorem dX9_doublesOf_26 : decode cX9_doublesOf 26 = .ok (.aaload, 1) := by decide +kernel
theorem dX9_doublesOf_27 : decode cX9_doublesOf 27 = .ok (.aload_n 0, 1) := by decide +kernel
theorem dX9_doublesOf_28 : decode cX9_doublesOf 28 = .ok (.getfield 53, 3) := by decide +kernel
theorem dX9_doublesOf_31 : decode cX9_doublesOf 31 = .ok (.iload 5, 2) := by decide +kernel
theorem dX9_doublesOf_33 : decode cX9_doublesOf 33 = .ok (.aaload, 1) := by decide +kernel
theorem dX9_doublesOf_34 : decode cX9_doublesOf 34 = .ok (.iload_n 2, 1) := by decide +kernel
theorem dX9_doublesOf_35 : decode cX9_doublesOf 35 = .ok (.iload_n 3, 1) := by decide +kernel
theorem dX9_doublesOf_36 : decode cX9_doublesOf 36 = .ok (.invokevirtual 102, 3) := by decide +kernel
theorem dX9_doublesOf_39 : decode cX9_doublesOf 39 = .ok (.ifCond .eq 12, 3) := by decide +kernel
theorem dX9_doublesOf_42 : decode cX9_doublesOf 42 = .ok (.iload 4, 2) := by decide +kernel
theorem dX9_doublesOf_44 : decode cX9_doublesOf 44 = .ok (.iconst 1, 1) := by decide +kernel
theorem dX9_doublesOf_45 : decode cX9_doublesOf 45 = .ok (.iload 5, 2) := by decide +kernel
theorem dX9_doublesOf_47 : decode cX9_doublesOf 47 = .ok (.ishl, 1) := by decide +kernel
theorem dX9_doublesOf_48 : decode cX9_doublesOf 48 = .ok (.ior, 1) := by decide +kernel
theorem dX9_doublesOf_49 : decode cX9_doublesOf 49 = .ok (.istore 4, 2) := by decide +kernel
theorem dX9_doublesOf_51 : decode cX9_doublesOf 51 = .ok (.iinc 5 1, 3) := by decide +kernel
theorem dX9_doublesOf_54 : decode cX9_doublesOf 54 = .ok (.goto (-48), 3) := by decide +kernel
theorem dX9_doublesOf_57 : decode cX9_doublesOf 57 = .ok (.iload 4, 2) := by decide +kernel
theorem dX9_doublesOf_59 : decode cX9_doublesOf 59 = .ok (.ireturn, 1) := by decide +kernel
theorem dX9_allUnlike_0 : decode cX9_allUnlike 0 = .ok (.iconst 0, 1) := by decide +kernel
theorem dX9_allUnlike_1 : decode cX9_allUnlike 1 = .ok (.istore_n 2, 1) := by decide +kernel
theorem dX9_allUnlike_2 : decode cX9_allUnlike 2 = .ok (.iload_n 2, 1) := by decide +kernel
theorem dX9_allUnlike_3 : decode cX9_allUnlike 3 = .ok (.aload_n 0, 1) := by decide +kernel
theorem dX9_allUnlike_4 : decode cX9_allUnlike 4 = .ok (.getfield 28, 3) := by decide +kernel
theorem dX9_allUnlike_7 : decode cX9_allUnlike 7 = .ok (.if_icmp .ge 48, 3) := by decide +kernel
theorem dX9_allUnlike_10 : decode cX9_allUnlike 10 = .ok (.iload_n 2, 1) := by decide +kernel
theorem dX9_allUnlike_11 : decode cX9_allUnlike 11 = .ok (.iconst 1, 1) := by decide +kernel
theorem dX9_allUnlike_12 : decode cX9_allUnlike 12 = .ok (.iadd, 1) := by decide +kernel
theorem dX9_allUnlike_13 : decode cX9_allUnlike 13 = .ok (.istore_n 3, 1) := by decide +kernel
theorem dX9_allUnlike_14 : decode cX9_allUnlike 14 = .ok (.iload_n 3, 1) := by decide +kernel
theorem dX9_allUnlike_15 : decode cX9_allUnlike 15 = .ok (.aload_n 0, 1) := by decide +kernel
theorem dX9_allUnlike_16 : decode cX9_allUnlike 16 = .ok (.getfield 28, 3) := by decide +kernel
theorem dX9_allUnlike_19 : decode cX9_allUnlike 19 = .ok (.if_icmp .ge 30, 3) := by decide +kernel
theorem dX9_allUnlike_22 : decode cX9_allUnlike 22 = .ok (.aload_n 0, 1) := by decide +kernel
theorem dX9_allUnlike_23 : decode cX9_allUnlike 23 = .ok (.getfield 53, 3) := by decide +kernel
theorem dX9_allUnlike_26 : decode cX9_allUnlike 26 = .ok (.iload_n 2, 1) := by decide +kernel
theorem dX9_allUnlike_27 : decode cX9_allUnlike 27 = .ok (.aaload, 1) := by decide +kernel
theorem dX9_allUnlike_28 : decode cX9_allUnlike 28 = .ok (.aload_n 0, 1) := by decide +kernel
theorem dX9_allUnlike_29 : decode cX9_allUnlike 29 = .ok (.getfield 53, 3) := by decide +kernel
theorem dX9_allUnlike_32 : decode cX9_allUnlike 32 = .ok (.iload_n 3, 1) := by decide +kernel
theorem dX9_allUnlike_33 : decode cX9_allUnlike 33 = .ok (.aaload, 1) := by decide +kernel
theorem dX9_allUnlike_34 : decode cX9_allUnlike 34 = .ok (.iload_n 1, 1) := by decide +kernel
theorem dX9_allUnlike_35 : decode cX9_allUnlike 35 = .ok (.invokevirtual 106, 3) := by decide +kernel
theorem dX9_allUnlike_38 : decode cX9_allUnlike 38 = .ok (.ifCond .eq 5, 3) := by decide +kernel
theorem dX9_allUnlike_41 : decode cX9_allUnlike 41 = .ok (.iconst 0, 1) := by decide +kernel
theorem dX9_allUnlike_42 : decode cX9_allUnlike 42 = .ok (.ireturn, 1) := by decide +kernel
theorem dX9_allUnlike_43 : decode cX9_allUnlike 43 = .ok (.iinc 3 1, 3) := by decide +kernel
theorem dX9_allUnlike_46 : decode cX9_allUnlike 46 = .ok (.goto (-32), 3) := by decide +kernel
theorem dX9_allUnlike_49 : decode cX9_allUnlike 49 = .ok (.iinc 2 1, 3) := by decide +kernel
theorem dX9_allUnlike_52 : decode cX9_allUnlike 52 = .ok (.goto (-50), 3) := by decide +kernel
theorem dX9_allUnlike_55 : decode cX9_allUnlike 55 = .ok (.iconst 1, 1) := by decide +kernel
theorem dX9_allUnlike_56 : decode cX9_allUnlike 56 = .ok (.ireturn, 1) := by decide +kernel
theorem dX9_shownAt_0 : decode cX9_shownAt 0 = .ok (.aload_n 0, 1) := by decide +kernel
theorem dX9_shownAt_1 : decode cX9_shownAt 1 = .ok (.getfield 65, 3) := by decide +kernel
theorem dX9_shownAt_4 : decode cX9_shownAt 4 = .ok (.iload_n 1, 1) := by decide +kernel
theorem dX9_shownAt_5 : decode cX9_shownAt 5 = .ok (.aaload, 1) := by decide +kernel
theorem dX9_shownAt_6 : decode cX9_shownAt 6 = .ok (.astore_n 2, 1) := by decide +kernel
theorem dX9_shownAt_7 : decode cX9_shownAt 7 = .ok (.aload_n 0, 1) := by decide +kernel
theorem dX9_shownAt_8 : decode cX9_shownAt 8 = .ok (.getfield 53, 3) := by decide +kernel
theorem dX9_shownAt_11 : decode cX9_shownAt 11 = .ok (.aload_n 2, 1) := by decide +kernel
theorem dX9_shownAt_12 : decode cX9_shownAt 12 = .ok (.getfield 110, 3) := by decide +kernel
theorem dX9_shownAt_15 : decode cX9_shownAt 15 = .ok (.aaload, 1) := by decide +kernel
theorem dX9_shownAt_16 : decode cX9_shownAt 16 = .ok (.aload_n 0, 1) := by decide +kernel
theorem dX9_shownAt_17 : decode cX9_shownAt 17 = .ok (.getfield 40, 3) := by decide +kernel
theorem dX9_shownAt_20 : decode cX9_shownAt 20 = .ok (.aload_n 2, 1) := by decide +kernel
theorem dX9_shownAt_21 : decode cX9_shownAt 21 = .ok (.getfield 113, 3) := by decide +kernel
theorem dX9_shownAt_24 : decode cX9_shownAt 24 = .ok (.iaload, 1) := by decide +kernel
theorem dX9_shownAt_25 : decode cX9_shownAt 25 = .ok (.aload_n 0, 1) := by decide +kernel
theorem dX9_shownAt_26 : decode cX9_shownAt 26 = .ok (.aload_n 2, 1) := by decide +kernel
theorem dX9_shownAt_27 : decode cX9_shownAt 27 = .ok (.getfield 116, 3) := by decide +kernel
theorem dX9_shownAt_30 : decode cX9_shownAt 30 = .ok (.invokevirtual 119, 3) := by decide +kernel
theorem dX9_shownAt_33 : decode cX9_shownAt 33 = .ok (.invokevirtual 123, 3) := by decide +kernel
theorem dX9_shownAt_36 : decode cX9_shownAt 36 = .ok (.ireturn, 1) := by decide +kernel
theorem dX9_fineAt_0 : decode cX9_fineAt 0 = .ok (.aload_n 0, 1) := by decide +kernel
theorem dX9_fineAt_1 : decode cX9_fineAt 1 = .ok (.getfield 65, 3) := by decide +kernel
theorem dX9_fineAt_4 : decode cX9_fineAt 4 = .ok (.iload_n 1, 1) := by decide +kernel
theorem dX9_fineAt_5 : decode cX9_fineAt 5 = .ok (.aaload, 1) := by decide +kernel
theorem dX9_fineAt_6 : decode cX9_fineAt 6 = .ok (.astore_n 3, 1) := by decide +kernel
theorem dX9_fineAt_7 : decode cX9_fineAt 7 = .ok (.aload_n 0, 1) := by decide +kernel
theorem dX9_fineAt_8 : decode cX9_fineAt 8 = .ok (.getfield 53, 3) := by decide +kernel
theorem dX9_fineAt_11 : decode cX9_fineAt 11 = .ok (.aload_n 3, 1) := by decide +kernel
theorem dX9_fineAt_12 : decode cX9_fineAt 12 = .ok (.getfield 110, 3) := by decide +kernel
theorem dX9_fineAt_15 : decode cX9_fineAt 15 = .ok (.aaload, 1) := by decide +kernel
theorem dX9_fineAt_16 : decode cX9_fineAt 16 = .ok (.iload_n 2, 1) := by decide +kernel
theorem dX9_fineAt_17 : decode cX9_fineAt 17 = .ok (.aload_n 0, 1) := by decide +kernel
theorem dX9_fineAt_18 : decode cX9_fineAt 18 = .ok (.getfield 40, 3) := by decide +kernel
theorem dX9_fineAt_21 : decode cX9_fineAt 21 = .ok (.aload_n 3, 1) := by decide +kernel
theorem dX9_fineAt_22 : decode cX9_fineAt 22 = .ok (.getfield 113, 3) := by decide +kernel
theorem dX9_fineAt_25 : decode cX9_fineAt 25 = .ok (.iaload, 1) := by decide +kernel
theorem dX9_fineAt_26 : decode cX9_fineAt 26 = .ok (.invokestatic 127, 3) := by decide +kernel
theorem dX9_fineAt_29 : decode cX9_fineAt 29 = .ok (.aload_n 0, 1) := by decide +kernel
theorem dX9_fineAt_30 : decode cX9_fineAt 30 = .ok (.aload_n 3, 1) := by decide +kernel
theorem dX9_fineAt_31 : decode cX9_fineAt 31 = .ok (.getfield 116, 3) := by decide +kernel
theorem dX9_fineAt_34 : decode cX9_fineAt 34 = .ok (.invokevirtual 119, 3) := by decide +kernel
theorem dX9_fineAt_37 : decode cX9_fineAt 37 = .ok (.invokevirtual 133, 3) := by decide +kernel
theorem dX9_fineAt_40 : decode cX9_fineAt 40 = .ok (.ireturn, 1) := by decide +kernel
theorem dX9_finesBy_0 : decode cX9_finesBy 0 = .ok (.iconst 0, 1) := by decide +kernel
theorem dX9_finesBy_1 : decode cX9_finesBy 1 = .ok (.istore_n 2, 1) := by decide +kernel
theorem dX9_finesBy_2 : decode cX9_finesBy 2 = .ok (.iconst 0, 1) := by decide +kernel
theorem dX9_finesBy_3 : decode cX9_finesBy 3 = .ok (.istore_n 3, 1) := by decide +kernel
theorem dX9_finesBy_4 : decode cX9_finesBy 4 = .ok (.iload_n 3, 1) := by decide +kernel
theorem dX9_finesBy_5 : decode cX9_finesBy 5 = .ok (.aload_n 0, 1) := by decide +kernel
theorem dX9_finesBy_6 : decode cX9_finesBy 6 = .ok (.getfield 34, 3) := by decide +kernel
theorem dX9_finesBy_9 : decode cX9_finesBy 9 = .ok (.if_icmp .ge 18, 3) := by decide +kernel
theorem dX9_finesBy_12 : decode cX9_finesBy 12 = .ok (.iload_n 2, 1) := by decide +kernel
theorem dX9_finesBy_13 : decode cX9_finesBy 13 = .ok (.aload_n 0, 1) := by decide +kernel
theorem dX9_finesBy_14 : decode cX9_finesBy 14 = .ok (.iload_n 3, 1) := by decide +kernel
theorem dX9_finesBy_15 : decode cX9_finesBy 15 = .ok (.iload_n 1, 1) := by decide +kernel
theorem dX9_finesBy_16 : decode cX9_finesBy 16 = .ok (.invokevirtual 136, 3) := by decide +kernel
theorem dX9_finesBy_19 : decode cX9_finesBy 19 = .ok (.iadd, 1) := by decide +kernel
theorem dX9_finesBy_20 : decode cX9_finesBy 20 = .ok (.istore_n 2, 1) := by decide +kernel
theorem dX9_finesBy_21 : decode cX9_finesBy 21 = .ok (.iinc 3 1, 3) := by decide +kernel
theorem dX9_finesBy_24 : decode cX9_finesBy 24 = .ok (.goto (-20), 3) := by decide +kernel
theorem dX9_finesBy_27 : decode cX9_finesBy 27 = .ok (.iload_n 2, 1) := by decide +kernel
theorem dX9_finesBy_28 : decode cX9_finesBy 28 = .ok (.ireturn, 1) := by decide +kernel
theorem dX9_visitsAt_0 : decode cX9_visitsAt 0 = .ok (.iconst 0, 1) := by decide +kernel
theorem dX9_visitsAt_1 : decode cX9_visitsAt 1 = .ok (.istore_n 2, 1) := by decide +kernel
theorem dX9_visitsAt_2 : decode cX9_visitsAt 2 = .ok (.iconst 0, 1) := by decide +kernel
theorem dX9_visitsAt_3 : decode cX9_visitsAt 3 = .ok (.istore_n 3, 1) := by decide +kernel
theorem dX9_visitsAt_4 : decode cX9_visitsAt 4 = .ok (.iload_n 3, 1) := by decide +kernel
theorem dX9_visitsAt_5 : decode cX9_visitsAt 5 = .ok (.aload_n 0, 1) := by decide +kernel
theorem dX9_visitsAt_6 : decode cX9_visitsAt 6 = .ok (.getfield 34, 3) := by decide +kernel
theorem dX9_visitsAt_9 : decode cX9_visitsAt 9 = .ok (.if_icmp .ge 25, 3) := by decide +kernel
theorem dX9_visitsAt_12 : decode cX9_visitsAt 12 = .ok (.aload_n 0, 1) := by decide +kernel
theorem dX9_visitsAt_13 : decode cX9_visitsAt 13 = .ok (.getfield 65, 3) := by decide +kernel
theorem dX9_visitsAt_16 : decode cX9_visitsAt 16 = .ok (.iload_n 3, 1) := by decide +kernel
theorem dX9_visitsAt_17 : decode cX9_visitsAt 17 = .ok (.aaload, 1) := by decide +kernel
theorem dX9_visitsAt_18 : decode cX9_visitsAt 18 = .ok (.getfield 116, 3) := by decide +kernel
theorem dX9_visitsAt_21 : decode cX9_visitsAt 21 = .ok (.iload_n 1, 1) := by decide +kernel
theorem dX9_visitsAt_22 : decode cX9_visitsAt 22 = .ok (.if_icmp .ne 6, 3) := by decide +kernel
theorem dX9_visitsAt_25 : decode cX9_visitsAt 25 = .ok (.iinc 2 1, 3) := by decide +kernel
theorem dX9_visitsAt_28 : decode cX9_visitsAt 28 = .ok (.iinc 3 1, 3) := by decide +kernel
theorem dX9_visitsAt_31 : decode cX9_visitsAt 31 = .ok (.goto (-27), 3) := by decide +kernel
theorem dX9_visitsAt_34 : decode cX9_visitsAt 34 = .ok (.iload_n 2, 1) := by decide +kernel
theorem dX9_visitsAt_35 : decode cX9_visitsAt 35 = .ok (.ireturn, 1) := by decide +kernel
theorem dX9_finesDrawn_0 : decode cX9_finesDrawn 0 = .ok (.aload_n 0, 1) := by decide +kernel
theorem dX9_finesDrawn_1 : decode cX9_finesDrawn 1 = .ok (.getfield 28, 3) := by decide +kernel
theorem dX9_finesDrawn_4 : decode cX9_finesDrawn 4 = .ok (.iconst 1, 1) := by decide +kernel
theorem dX9_finesDrawn_5 : decode cX9_finesDrawn 5 = .ok (.if_icmp .lt 11, 3) := by decide +kernel
theorem dX9_finesDrawn_8 : decode cX9_finesDrawn 8 = .ok (.aload_n 0, 1) := by decide +kernel
theorem dX9_finesDrawn_9 : decode cX9_finesDrawn 9 = .ok (.getfield 25, 3) := by decide +kernel
theorem dX9_finesDrawn_12 : decode cX9_finesDrawn 12 = .ok (.iconst 1, 1) := by decide +kernel
theorem dX9_finesDrawn_13 : decode cX9_finesDrawn 13 = .ok (.if_icmp .ge 5, 3) := by decide +kernel
theorem dX9_finesDrawn_16 : decode cX9_finesDrawn 16 = .ok (.iconst 0, 1) := by decide +kernel
theorem dX9_finesDrawn_17 : decode cX9_finesDrawn 17 = .ok (.ireturn, 1) := by decide +kernel
theorem dX9_finesDrawn_18 : decode cX9_finesDrawn 18 = .ok (.iconst 0, 1) := by decide +kernel
theorem dX9_finesDrawn_19 : decode cX9_finesDrawn 19 = .ok (.istore 4, 2) := by decide +kernel
theorem dX9_finesDrawn_21 : decode cX9_finesDrawn 21 = .ok (.iload_n 2, 1) := by decide +kernel
theorem dX9_finesDrawn_22 : decode cX9_finesDrawn 22 = .ok (.istore 5, 2) := by decide +kernel
theorem dX9_finesDrawn_24 : decode cX9_finesDrawn 24 = .ok (.iload_n 3, 1) := by decide +kernel
theorem dX9_finesDrawn_25 : decode cX9_finesDrawn 25 = .ok (.aload_n 0, 1) := by decide +kernel
theorem dX9_finesDrawn_26 : decode cX9_finesDrawn 26 = .ok (.getfield 19, 3) := by decide +kernel
theorem dX9_finesDrawn_29 : decode cX9_finesDrawn 29 = .ok (.aload_n 0, 1) := by decide +kernel
theorem dX9_finesDrawn_30 : decode cX9_finesDrawn 30 = .ok (.getfield 15, 3) := by decide +kernel
theorem dX9_finesDrawn_33 : decode cX9_finesDrawn 33 = .ok (.isub, 1) := by decide +kernel
theorem dX9_finesDrawn_34 : decode cX9_finesDrawn 34 = .ok (.imul, 1) := by decide +kernel
theorem dX9_finesDrawn_35 : decode cX9_finesDrawn 35 = .ok (.istore 6, 2) := by decide +kernel
theorem dX9_finesDrawn_37 : decode cX9_finesDrawn 37 = .ok (.iconst 0, 1) := by decide +kernel
theorem dX9_finesDrawn_38 : decode cX9_finesDrawn 38 = .ok (.istore 7, 2) := by decide +kernel
theorem dX9_finesDrawn_40 : decode cX9_finesDrawn 40 = .ok (.iload 7, 2) := by decide +kernel
theorem dX9_finesDrawn_42 : decode cX9_finesDrawn 42 = .ok (.iload 6, 2) := by decide +kernel
theorem dX9_finesDrawn_44 : decode cX9_finesDrawn 44 = .ok (.if_icmp .ge 75, 3) := by decide +kernel
theorem dX9_finesDrawn_47 : decode cX9_finesDrawn 47 = .ok (.iload 5, 2) := by decide +kernel
theorem dX9_finesDrawn_49 : decode cX9_finesDrawn 49 = .ok (.invokestatic 139, 3) := by decide +kernel
theorem dX9_finesDrawn_52 : decode cX9_finesDrawn 52 = .ok (.istore 5, 2) := by decide +kernel
theorem dX9_finesDrawn_54 : decode cX9_finesDrawn 54 = .ok (.iload 5, 2) := by decide +kernel
theorem dX9_finesDrawn_56 : decode cX9_finesDrawn 56 = .ok (.aload_n 0, 1) := by decide +kernel
theorem dX9_finesDrawn_57 : decode cX9_finesDrawn 57 = .ok (.getfield 28, 3) := by decide +kernel
theorem dX9_finesDrawn_60 : decode cX9_finesDrawn 60 = .ok (.irem, 1) := by decide +kernel
theorem dX9_finesDrawn_61 : decode cX9_finesDrawn 61 = .ok (.istore 8, 2) := by decide +kernel
theorem dX9_finesDrawn_63 : decode cX9_finesDrawn 63 = .ok (.iload 5, 2) := by decide +kernel
theorem dX9_finesDrawn_65 : decode cX9_finesDrawn 65 = .ok (.invokestatic 139, 3) := by decide +kernel
theorem dX9_finesDrawn_68 : decode cX9_finesDrawn 68 = .ok (.istore 5, 2) := by decide +kernel
theorem dX9_finesDrawn_70 : decode cX9_finesDrawn 70 = .ok (.iload 5, 2) := by decide +kernel
theorem dX9_finesDrawn_72 : decode cX9_finesDrawn 72 = .ok (.aload_n 0, 1) := by decide +kernel
theorem dX9_finesDrawn_73 : decode cX9_finesDrawn 73 = .ok (.getfield 25, 3) := by decide +kernel
theorem dX9_finesDrawn_76 : decode cX9_finesDrawn 76 = .ok (.irem, 1) := by decide +kernel
theorem dX9_finesDrawn_77 : decode cX9_finesDrawn 77 = .ok (.istore 9, 2) := by decide +kernel
theorem dX9_finesDrawn_79 : decode cX9_finesDrawn 79 = .ok (.iload_n 1, 1) := by decide +kernel
theorem dX9_finesDrawn_80 : decode cX9_finesDrawn 80 = .ok (.iconst (-1), 1) := by decide +kernel
theorem dX9_finesDrawn_81 : decode cX9_finesDrawn 81 = .ok (.if_icmp .eq 9, 3) := by decide +kernel
theorem dX9_finesDrawn_84 : decode cX9_finesDrawn 84 = .ok (.iload_n 1, 1) := by decide +kernel
theorem dX9_finesDrawn_85 : decode cX9_finesDrawn 85 = .ok (.iload 8, 2) := by decide +kernel
theorem dX9_finesDrawn_87 : decode cX9_finesDrawn 87 = .ok (.if_icmp .ne 26, 3) := by decide +kernel
theorem dX9_finesDrawn_90 : decode cX9_finesDrawn 90 = .ok (.iload 4, 2) := by decide +kernel
theorem dX9_finesDrawn_92 : decode cX9_finesDrawn 92 = .ok (.aload_n 0, 1) := by decide +kernel
theorem dX9_finesDrawn_93 : decode cX9_finesDrawn 93 = .ok (.getfield 53, 3) := by decide +kernel
theorem dX9_finesDrawn_96 : decode cX9_finesDrawn 96 = .ok (.iload 8, 2) := by decide +kernel
theorem dX9_finesDrawn_98 : decode cX9_finesDrawn 98 = .ok (.aaload, 1) := by decide +kernel
theorem dX9_finesDrawn_99 : decode cX9_finesDrawn 99 = .ok (.aload_n 0, 1) := by decide +kernel
theorem dX9_finesDrawn_100 : decode cX9_finesDrawn 100 = .ok (.getfield 40, 3) := by decide +kernel
theorem dX9_finesDrawn_103 : decode cX9_finesDrawn 103 = .ok (.iload 9, 2) := by decide +kernel
theorem dX9_finesDrawn_105 : decode cX9_finesDrawn 105 = .ok (.iaload, 1) := by decide +kernel
theorem dX9_finesDrawn_106 : decode cX9_finesDrawn 106 = .ok (.iconst 1, 1) := by decide +kernel
theorem dX9_finesDrawn_107 : decode cX9_finesDrawn 107 = .ok (.invokevirtual 133, 3) := by decide +kernel
theorem dX9_finesDrawn_110 : decode cX9_finesDrawn 110 = .ok (.iadd, 1) := by decide +kernel
theorem dX9_finesDrawn_111 : decode cX9_finesDrawn 111 = .ok (.istore 4, 2) := by decide +kernel
theorem dX9_finesDrawn_113 : decode cX9_finesDrawn 113 = .ok (.iinc 7 1, 3) := by decide +kernel
theorem dX9_finesDrawn_116 : decode cX9_finesDrawn 116 = .ok (.goto (-76), 3) := by decide +kernel
theorem dX9_finesDrawn_119 : decode cX9_finesDrawn 119 = .ok (.iload 4, 2) := by decide +kernel
theorem dX9_finesDrawn_121 : decode cX9_finesDrawn 121 = .ok (.ireturn, 1) := by decide +kernel
theorem dX9_nextSeed_0 : decode cX9_nextSeed 0 = .ok (.bipush 75, 2) := by decide +kernel
theorem dX9_nextSeed_2 : decode cX9_nextSeed 2 = .ok (.iload_n 0, 1) := by decide +kernel
theorem dX9_nextSeed_3 : decode cX9_nextSeed 3 = .ok (.imul, 1) := by decide +kernel
theorem dX9_nextSeed_4 : decode cX9_nextSeed 4 = .ok (.bipush 74, 2) := by decide +kernel
theorem dX9_nextSeed_6 : decode cX9_nextSeed 6 = .ok (.iadd, 1) := by decide +kernel
theorem dX9_nextSeed_7 : decode cX9_nextSeed 7 = .ok (.ldc 142, 2) := by decide +kernel
theorem dX9_nextSeed_9 : decode cX9_nextSeed 9 = .ok (.irem, 1) := by decide +kernel
theorem dX9_nextSeed_10 : decode cX9_nextSeed 10 = .ok (.ireturn, 1) := by decide +kernel
theorem dX9_handsFrom_0 : decode cX9_handsFrom 0 = .ok (.aload_n 0, 1) := by decide +kernel
theorem dX9_handsFrom_1 : decode cX9_handsFrom 1 = .ok (.getfield 59, 3) := by decide +kernel
theorem dX9_handsFrom_4 : decode cX9_handsFrom 4 = .ok (.iload_n 2, 1) := by decide +kernel
theorem dX9_handsFrom_5 : decode cX9_handsFrom 5 = .ok (.aaload, 1) := by decide +kernel
theorem dX9_handsFrom_6 : decode cX9_handsFrom 6 = .ok (.getfield 89, 3) := by decide +kernel
theorem dX9_handsFrom_9 : decode cX9_handsFrom 9 = .ok (.istore_n 3, 1) := by decide +kernel
theorem dX9_handsFrom_10 : decode cX9_handsFrom 10 = .ok (.aload_n 0, 1) := by decide +kernel
theorem dX9_handsFrom_11 : decode cX9_handsFrom 11 = .ok (.getfield 75, 3) := by decide +kernel
theorem dX9_handsFrom_14 : decode cX9_handsFrom 14 = .ok (.ldc 143, 2) := by decide +kernel
theorem dX9_handsFrom_16 : decode cX9_handsFrom 16 = .ok (.invokestatic 144, 3) := by decide +kernel
theorem dX9_handsFrom_19 : decode cX9_handsFrom 19 = .ok (.aload_n 0, 1) := by decide +kernel
theorem dX9_handsFrom_20 : decode cX9_handsFrom 20 = .ok (.getfield 75, 3) := by decide +kernel
theorem dX9_handsFrom_23 : decode cX9_handsFrom 23 = .ok (.iload_n 1, 1) := by decide +kernel
theorem dX9_handsFrom_24 : decode cX9_handsFrom 24 = .ok (.iconst 0, 1) := by decide +kernel
theorem dX9_handsFrom_25 : decode cX9_handsFrom 25 = .ok (.iastore, 1) := by decide +kernel
theorem dX9_handsFrom_26 : decode cX9_handsFrom 26 = .ok (.iconst 0, 1) := by decide +kernel
theorem dX9_handsFrom_27 : decode cX9_handsFrom 27 = .ok (.istore 4, 2) := by decide +kernel
theorem dX9_handsFrom_29 : decode cX9_handsFrom 29 = .ok (.iload 4, 2) := by decide +kernel
theorem dX9_handsFrom_31 : decode cX9_handsFrom 31 = .ok (.aload_n 0, 1) := by decide +kernel
theorem dX9_handsFrom_32 : decode cX9_handsFrom 32 = .ok (.getfield 25, 3) := by decide +kernel
theorem dX9_handsFrom_35 : decode cX9_handsFrom 35 = .ok (.if_icmp .ge 97, 3) := by decide +kernel
theorem dX9_handsFrom_38 : decode cX9_handsFrom 38 = .ok (.iconst 0, 1) := by decide +kernel
theorem dX9_handsFrom_39 : decode cX9_handsFrom 39 = .ok (.istore 5, 2) := by decide +kernel
theorem dX9_handsFrom_41 : decode cX9_handsFrom 41 = .ok (.iload 5, 2) := by decide +kernel
theorem dX9_handsFrom_43 : decode cX9_handsFrom 43 = .ok (.aload_n 0, 1) := by decide +kernel
theorem dX9_handsFrom_44 : decode cX9_handsFrom 44 = .ok (.getfield 25, 3) := by decide +kernel
theorem dX9_handsFrom_47 : decode cX9_handsFrom 47 = .ok (.if_icmp .ge 79, 3) := by decide +kernel
theorem dX9_handsFrom_50 : decode cX9_handsFrom 50 = .ok (.iconst 0, 1) := by decide +kernel
theorem dX9_handsFrom_51 : decode cX9_handsFrom 51 = .ok (.istore 6, 2) := by decide +kernel
theorem dX9_handsFrom_53 : decode cX9_handsFrom 53 = .ok (.iload 6, 2) := by decide +kernel
theorem dX9_handsFrom_55 : decode cX9_handsFrom 55 = .ok (.aload_n 0, 1) := by decide +kernel
theorem dX9_handsFrom_56 : decode cX9_handsFrom 56 = .ok (.getfield 25, 3) := by decide +kernel
theorem dX9_handsFrom_59 : decode cX9_handsFrom 59 = .ok (.if_icmp .ge 61, 3) := by decide +kernel
theorem dX9_handsFrom_62 : decode cX9_handsFrom 62 = .ok (.aload_n 0, 1) := by decide +kernel
theorem dX9_handsFrom_63 : decode cX9_handsFrom 63 = .ok (.getfield 47, 3) := by decide +kernel
theorem dX9_handsFrom_66 : decode cX9_handsFrom 66 = .ok (.iload 5, 2) := by decide +kernel
theorem dX9_handsFrom_68 : decode cX9_handsFrom 68 = .ok (.iload 6, 2) := by decide +kernel
theorem dX9_handsFrom_70 : decode cX9_handsFrom 70 = .ok (.invokevirtual 150, 3) := by decide +kernel
theorem dX9_handsFrom_73 : decode cX9_handsFrom 73 = .ok (.ifCond .eq 41, 3) := by decide +kernel
theorem dX9_handsFrom_76 : decode cX9_handsFrom 76 = .ok (.aload_n 0, 1) := by decide +kernel
theorem dX9_handsFrom_77 : decode cX9_handsFrom 77 = .ok (.iload_n 3, 1) := by decide +kernel
theorem dX9_handsFrom_78 : decode cX9_handsFrom 78 = .ok (.iload 5, 2) := by decide +kernel
theorem dX9_handsFrom_80 : decode cX9_handsFrom 80 = .ok (.iload 6, 2) := by decide +kernel
theorem dX9_handsFrom_82 : decode cX9_handsFrom 82 = .ok (.invokevirtual 98, 3) := by decide +kernel
theorem dX9_handsFrom_85 : decode cX9_handsFrom 85 = .ok (.ifCond .eq 29, 3) := by decide +kernel
theorem dX9_handsFrom_88 : decode cX9_handsFrom 88 = .ok (.aload_n 0, 1) := by decide +kernel
theorem dX9_handsFrom_89 : decode cX9_handsFrom 89 = .ok (.getfield 75, 3) := by decide +kernel
theorem dX9_handsFrom_92 : decode cX9_handsFrom 92 = .ok (.iload 6, 2) := by decide +kernel
theorem dX9_handsFrom_94 : decode cX9_handsFrom 94 = .ok (.aload_n 0, 1) := by decide +kernel
theorem dX9_handsFrom_95 : decode cX9_handsFrom 95 = .ok (.getfield 75, 3) := by decide +kernel
theorem dX9_handsFrom_98 : decode cX9_handsFrom 98 = .ok (.iload 6, 2) := by decide +kernel
theorem dX9_handsFrom_100 : decode cX9_handsFrom 100 = .ok (.iaload, 1) := by decide +kernel
theorem dX9_handsFrom_101 : decode cX9_handsFrom 101 = .ok (.aload_n 0, 1) := by decide +kernel
theorem dX9_handsFrom_102 : decode cX9_handsFrom 102 = .ok (.getfield 75, 3) := by decide +kernel
theorem dX9_handsFrom_105 : decode cX9_handsFrom 105 = .ok (.iload 5, 2) := by decide +kernel
theorem dX9_handsFrom_107 : decode cX9_handsFrom 107 = .ok (.iaload, 1) := by decide +kernel
theorem dX9_handsFrom_108 : decode cX9_handsFrom 108 = .ok (.iconst 1, 1) := by decide +kernel
theorem dX9_handsFrom_109 : decode cX9_handsFrom 109 = .ok (.iadd, 1) := by decide +kernel
theorem dX9_handsFrom_110 : decode cX9_handsFrom 110 = .ok (.invokestatic 154, 3) := by decide +kernel
theorem dX9_handsFrom_113 : decode cX9_handsFrom 113 = .ok (.iastore, 1) := by decide +kernel
theorem dX9_handsFrom_114 : decode cX9_handsFrom 114 = .ok (.iinc 6 1, 3) := by decide +kernel
theorem dX9_handsFrom_117 : decode cX9_handsFrom 117 = .ok (.goto (-64), 3) := by decide +kernel
theorem dX9_handsFrom_120 : decode cX9_handsFrom 120 = .ok (.iinc 5 1, 3) := by decide +kernel
theorem dX9_handsFrom_123 : decode cX9_handsFrom 123 = .ok (.goto (-82), 3) := by decide +kernel
theorem dX9_handsFrom_126 : decode cX9_handsFrom 126 = .ok (.iinc 4 1, 3) := by decide +kernel
theorem dX9_handsFrom_129 : decode cX9_handsFrom 129 = .ok (.goto (-100), 3) := by decide +kernel
theorem dX9_handsFrom_132 : decode cX9_handsFrom 132 = .ok (.aload_n 0, 1) := by decide +kernel
theorem dX9_handsFrom_133 : decode cX9_handsFrom 133 = .ok (.getfield 75, 3) := by decide +kernel
theorem dX9_handsFrom_136 : decode cX9_handsFrom 136 = .ok (.aload_n 0, 1) := by decide +kernel
theorem dX9_handsFrom_137 : decode cX9_handsFrom 137 = .ok (.getfield 59, 3) := by decide +kernel
theorem dX9_handsFrom_140 : decode cX9_handsFrom 140 = .ok (.iload_n 2, 1) := by decide +kernel
theorem dX9_handsFrom_141 : decode cX9_handsFrom 141 = .ok (.aaload, 1) := by decide +kernel
theorem dX9_handsFrom_142 : decode cX9_handsFrom 142 = .ok (.getfield 95, 3) := by decide +kernel
theorem dX9_handsFrom_145 : decode cX9_handsFrom 145 = .ok (.iaload, 1) := by decide +kernel
theorem dX9_handsFrom_146 : decode cX9_handsFrom 146 = .ok (.ireturn, 1) := by decide +kernel
