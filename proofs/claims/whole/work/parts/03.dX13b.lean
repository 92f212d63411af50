theorem dX13_town_23 : decode cX13_town 23 = .ok (.aload_n 0, 1) := by decide +kernel
theorem dX13_town_24 : decode cX13_town 24 = .ok (.iload_n 1, 1) := by decide +kernel
theorem dX13_town_25 : decode cX13_town 25 = .ok (.putfield 64, 3) := by decide +kernel
theorem dX13_town_28 : decode cX13_town 28 = .ok (.aload_n 0, 1) := by decide +kernel
theorem dX13_town_29 : decode cX13_town 29 = .ok (.iconst 0, 1) := by decide +kernel
theorem dX13_town_30 : decode cX13_town 30 = .ok (.putfield 328, 3) := by decide +kernel
theorem dX13_town_33 : decode cX13_town 33 = .ok (.aload_n 0, 1) := by decide +kernel
theorem dX13_town_34 : decode cX13_town 34 = .ok (.iconst 0, 1) := by decide +kernel
theorem dX13_town_35 : decode cX13_town 35 = .ok (.putfield 82, 3) := by decide +kernel
theorem dX13_town_38 : decode cX13_town 38 = .ok (.aload_n 0, 1) := by decide +kernel
theorem dX13_town_39 : decode cX13_town 39 = .ok (.iconst 0, 1) := by decide +kernel
theorem dX13_town_40 : decode cX13_town 40 = .ok (.putfield 108, 3) := by decide +kernel
theorem dX13_town_43 : decode cX13_town 43 = .ok (.aload_n 0, 1) := by decide +kernel
theorem dX13_town_44 : decode cX13_town 44 = .ok (.new 162, 3) := by decide +kernel
theorem dX13_town_47 : decode cX13_town 47 = .ok (.dup, 1) := by decide +kernel
theorem dX13_town_48 : decode cX13_town 48 = .ok (.invokespecial 331, 3) := by decide +kernel
theorem dX13_town_51 : decode cX13_town 51 = .ok (.putfield 157, 3) := by decide +kernel
theorem dX13_town_54 : decode cX13_town 54 = .ok (.aload_n 0, 1) := by decide +kernel
theorem dX13_town_55 : decode cX13_town 55 = .ok (.iconst 0, 1) := by decide +kernel
theorem dX13_town_56 : decode cX13_town 56 = .ok (.putfield 79, 3) := by decide +kernel
theorem dX13_town_59 : decode cX13_town 59 = .ok (.aload_n 0, 1) := by decide +kernel
theorem dX13_town_60 : decode cX13_town 60 = .ok (.invokevirtual 118, 3) := by decide +kernel
theorem dX13_town_63 : decode cX13_town 63 = .ok (.aload_n 0, 1) := by decide +kernel
theorem dX13_town_64 : decode cX13_town 64 = .ok (.invokevirtual 332, 3) := by decide +kernel
theorem dX13_town_67 : decode cX13_town 67 = .ok (.aload_n 0, 1) := by decide +kernel
theorem dX13_town_68 : decode cX13_town 68 = .ok (.getfield 108, 3) := by decide +kernel
theorem dX13_town_71 : decode cX13_town 71 = .ok (.ifCond .le 18, 3) := by decide +kernel
theorem dX13_town_74 : decode cX13_town 74 = .ok (.aload_n 0, 1) := by decide +kernel
theorem dX13_town_75 : decode cX13_town 75 = .ok (.iconst 4, 1) := by decide +kernel
theorem dX13_town_76 : decode cX13_town 76 = .ok (.putfield 54, 3) := by decide +kernel
theorem dX13_town_79 : decode cX13_town 79 = .ok (.aload_n 0, 1) := by decide +kernel
theorem dX13_town_80 : decode cX13_town 80 = .ok (.aload_n 0, 1) := by decide +kernel
theorem dX13_town_81 : decode cX13_town 81 = .ok (.getfield 111, 3) := by decide +kernel
theorem dX13_town_84 : decode cX13_town 84 = .ok (.putfield 9, 3) := by decide +kernel
theorem dX13_town_87 : decode cX13_town 87 = .ok (.iconst (-1), 1) := by decide +kernel
theorem dX13_town_88 : decode cX13_town 88 = .ok (.ireturn, 1) := by decide +kernel
theorem dX13_town_89 : decode cX13_town 89 = .ok (.aload_n 0, 1) := by decide +kernel
theorem dX13_town_90 : decode cX13_town 90 = .ok (.aload_n 0, 1) := by decide +kernel
theorem dX13_town_91 : decode cX13_town 91 = .ok (.getfield 157, 3) := by decide +kernel
theorem dX13_town_94 : decode cX13_town 94 = .ok (.putfield 335, 3) := by decide +kernel
theorem dX13_town_97 : decode cX13_town 97 = .ok (.aload_n 0, 1) := by decide +kernel
theorem dX13_town_98 : decode cX13_town 98 = .ok (.getfield 335, 3) := by decide +kernel
theorem dX13_town_101 : decode cX13_town 101 = .ok (.invokevirtual 337, 3) := by decide +kernel
theorem dX13_town_104 : decode cX13_town 104 = .ok (.iconst 0, 1) := by decide +kernel
theorem dX13_town_105 : decode cX13_town 105 = .ok (.istore_n 2, 1) := by decide +kernel
theorem dX13_town_106 : decode cX13_town 106 = .ok (.iload_n 2, 1) := by decide +kernel
theorem dX13_town_107 : decode cX13_town 107 = .ok (.bipush 6, 2) := by decide +kernel
theorem dX13_town_109 : decode cX13_town 109 = .ok (.if_icmp .ge 42, 3) := by decide +kernel
theorem dX13_town_112 : decode cX13_town 112 = .ok (.aload_n 0, 1) := by decide +kernel
theorem dX13_town_113 : decode cX13_town 113 = .ok (.getfield 17, 3) := by decide +kernel
theorem dX13_town_116 : decode cX13_town 116 = .ok (.iconst 0, 1) := by decide +kernel
theorem dX13_town_117 : decode cX13_town 117 = .ok (.iload_n 2, 1) := by decide +kernel
theorem dX13_town_118 : decode cX13_town 118 = .ok (.iadd, 1) := by decide +kernel
theorem dX13_town_119 : decode cX13_town 119 = .ok (.iload_n 2, 1) := by decide +kernel
theorem dX13_town_120 : decode cX13_town 120 = .ok (.aload_n 0, 1) := by decide +kernel
theorem dX13_town_121 : decode cX13_town 121 = .ok (.getfield 335, 3) := by decide +kernel
theorem dX13_town_124 : decode cX13_town 124 = .ok (.getfield 199, 3) := by decide +kernel
theorem dX13_town_127 : decode cX13_town 127 = .ok (.if_icmp .ge 15, 3) := by decide +kernel
theorem dX13_town_130 : decode cX13_town 130 = .ok (.aload_n 0, 1) := by decide +kernel
theorem dX13_town_131 : decode cX13_town 131 = .ok (.getfield 335, 3) := by decide +kernel
theorem dX13_town_134 : decode cX13_town 134 = .ok (.getfield 281, 3) := by decide +kernel
theorem dX13_town_137 : decode cX13_town 137 = .ok (.iload_n 2, 1) := by decide +kernel
theorem dX13_town_138 : decode cX13_town 138 = .ok (.iaload, 1) := by decide +kernel
theorem dX13_town_139 : decode cX13_town 139 = .ok (.goto 5, 3) := by decide +kernel
theorem dX13_town_142 : decode cX13_town 142 = .ok (.bipush (-2), 2) := by decide +kernel
theorem dX13_town_144 : decode cX13_town 144 = .ok (.iastore, 1) := by decide +kernel
theorem dX13_town_145 : decode cX13_town 145 = .ok (.iinc 2 1, 3) := by decide +kernel
theorem dX13_town_148 : decode cX13_town 148 = .ok (.goto (-42), 3) := by decide +kernel
theorem dX13_town_151 : decode cX13_town 151 = .ok (.iconst 0, 1) := by decide +kernel
theorem dX13_town_152 : decode cX13_town 152 = .ok (.istore_n 2, 1) := by decide +kernel
theorem dX13_town_153 : decode cX13_town 153 = .ok (.iload_n 2, 1) := by decide +kernel
theorem dX13_town_154 : decode cX13_town 154 = .ok (.iconst 5, 1) := by decide +kernel
theorem dX13_town_155 : decode cX13_town 155 = .ok (.if_icmp .ge 43, 3) := by decide +kernel
theorem dX13_town_158 : decode cX13_town 158 = .ok (.aload_n 0, 1) := by decide +kernel
theorem dX13_town_159 : decode cX13_town 159 = .ok (.getfield 17, 3) := by decide +kernel
theorem dX13_town_162 : decode cX13_town 162 = .ok (.bipush 6, 2) := by decide +kernel
theorem dX13_town_164 : decode cX13_town 164 = .ok (.iload_n 2, 1) := by decide +kernel
theorem dX13_town_165 : decode cX13_town 165 = .ok (.iadd, 1) := by decide +kernel
theorem dX13_town_166 : decode cX13_town 166 = .ok (.iload_n 2, 1) := by decide +kernel
theorem dX13_town_167 : decode cX13_town 167 = .ok (.aload_n 0, 1) := by decide +kernel
theorem dX13_town_168 : decode cX13_town 168 = .ok (.getfield 335, 3) := by decide +kernel
theorem dX13_town_171 : decode cX13_town 171 = .ok (.getfield 288, 3) := by decide +kernel
theorem dX13_town_174 : decode cX13_town 174 = .ok (.if_icmp .ge 15, 3) := by decide +kernel
theorem dX13_town_177 : decode cX13_town 177 = .ok (.aload_n 0, 1) := by decide +kernel
theorem dX13_town_178 : decode cX13_town 178 = .ok (.getfield 335, 3) := by decide +kernel
theorem dX13_town_181 : decode cX13_town 181 = .ok (.getfield 298, 3) := by decide +kernel
theorem dX13_town_184 : decode cX13_town 184 = .ok (.iload_n 2, 1) := by decide +kernel
theorem dX13_town_185 : decode cX13_town 185 = .ok (.iaload, 1) := by decide +kernel
theorem dX13_town_186 : decode cX13_town 186 = .ok (.goto 5, 3) := by decide +kernel
theorem dX13_town_189 : decode cX13_town 189 = .ok (.bipush (-2), 2) := by decide +kernel
theorem dX13_town_191 : decode cX13_town 191 = .ok (.iastore, 1) := by decide +kernel
theorem dX13_town_192 : decode cX13_town 192 = .ok (.iinc 2 1, 3) := by decide +kernel
theorem dX13_town_195 : decode cX13_town 195 = .ok (.goto (-42), 3) := by decide +kernel
theorem dX13_town_198 : decode cX13_town 198 = .ok (.aload_n 0, 1) := by decide +kernel
theorem dX13_town_199 : decode cX13_town 199 = .ok (.getfield 17, 3) := by decide +kernel
theorem dX13_town_202 : decode cX13_town 202 = .ok (.bipush 11, 2) := by decide +kernel
theorem dX13_town_204 : decode cX13_town 204 = .ok (.bipush 12, 2) := by decide +kernel
theorem dX13_town_206 : decode cX13_town 206 = .ok (.iastore, 1) := by decide +kernel
theorem dX13_town_207 : decode cX13_town 207 = .ok (.aload_n 0, 1) := by decide +kernel
theorem dX13_town_208 : decode cX13_town 208 = .ok (.getfield 17, 3) := by decide +kernel
theorem dX13_town_211 : decode cX13_town 211 = .ok (.bipush 12, 2) := by decide +kernel
theorem dX13_town_213 : decode cX13_town 213 = .ok (.iconst 0, 1) := by decide +kernel
theorem dX13_town_214 : decode cX13_town 214 = .ok (.iastore, 1) := by decide +kernel
theorem dX13_town_215 : decode cX13_town 215 = .ok (.aload_n 0, 1) := by decide +kernel
theorem dX13_town_216 : decode cX13_town 216 = .ok (.iconst 0, 1) := by decide +kernel
theorem dX13_town_217 : decode cX13_town 217 = .ok (.putfield 340, 3) := by decide +kernel
theorem dX13_town_220 : decode cX13_town 220 = .ok (.aload_n 0, 1) := by decide +kernel
theorem dX13_town_221 : decode cX13_town 221 = .ok (.iconst 0, 1) := by decide +kernel
theorem dX13_town_222 : decode cX13_town 222 = .ok (.putfield 343, 3) := by decide +kernel
theorem dX13_town_225 : decode cX13_town 225 = .ok (.aload_n 0, 1) := by decide +kernel
theorem dX13_town_226 : decode cX13_town 226 = .ok (.aload_n 0, 1) := by decide +kernel
theorem dX13_town_227 : decode cX13_town 227 = .ok (.getfield 335, 3) := by decide +kernel
theorem dX13_town_230 : decode cX13_town 230 = .ok (.getfield 199, 3) := by decide +kernel
theorem dX13_town_233 : decode cX13_town 233 = .ok (.invokevirtual 61, 3) := by decide +kernel
theorem dX13_town_236 : decode cX13_town 236 = .ok (.ireturn, 1) := by decide +kernel
theorem dX13_fault_0 : decode cX13_fault 0 = .ok (.aload_n 0, 1) := by decide +kernel
theorem dX13_fault_1 : decode cX13_fault 1 = .ok (.iconst 0, 1) := by decide +kernel
theorem dX13_fault_2 : decode cX13_fault 2 = .ok (.putfield 51, 3) := by decide +kernel
theorem dX13_fault_5 : decode cX13_fault 5 = .ok (.aload_n 0, 1) := by decide +kernel
theorem dX13_fault_6 : decode cX13_fault 6 = .ok (.getfield 108, 3) := by decide +kernel
theorem dX13_fault_9 : decode cX13_fault 9 = .ok (.ireturn, 1) := by decide +kernel
theorem dX13_where_0 : decode cX13_where 0 = .ok (.aload_n 0, 1) := by decide +kernel
theorem dX13_where_1 : decode cX13_where 1 = .ok (.iconst 0, 1) := by decide +kernel
theorem dX13_where_2 : decode cX13_where 2 = .ok (.putfield 51, 3) := by decide +kernel
theorem dX13_where_5 : decode cX13_where 5 = .ok (.aload_n 0, 1) := by decide +kernel
theorem dX13_where_6 : decode cX13_where 6 = .ok (.getfield 9, 3) := by decide +kernel
theorem dX13_where_9 : decode cX13_where 9 = .ok (.ireturn, 1) := by decide +kernel
theorem dX13_isHouse_0 : decode cX13_isHouse 0 = .ok (.aload_n 0, 1) := by decide +kernel
theorem dX13_isHouse_1 : decode cX13_isHouse 1 = .ok (.getfield 335, 3) := by decide +kernel
theorem dX13_isHouse_4 : decode cX13_isHouse 4 = .ok (.ifnull 22, 3) := by decide +kernel
theorem dX13_isHouse_7 : decode cX13_isHouse 7 = .ok (.iload_n 1, 1) := by decide +kernel
theorem dX13_isHouse_8 : decode cX13_isHouse 8 = .ok (.ifCond .lt 18, 3) := by decide +kernel
theorem dX13_isHouse_11 : decode cX13_isHouse 11 = .ok (.iload_n 1, 1) := by decide +kernel
theorem dX13_isHouse_12 : decode cX13_isHouse 12 = .ok (.aload_n 0, 1) := by decide +kernel
theorem dX13_isHouse_13 : decode cX13_isHouse 13 = .ok (.getfield 335, 3) := by decide +kernel
theorem dX13_isHouse_16 : decode cX13_isHouse 16 = .ok (.getfield 196, 3) := by decide +kernel
theorem dX13_isHouse_19 : decode cX13_isHouse 19 = .ok (.if_icmp .ge 7, 3) := by decide +kernel
theorem dX13_isHouse_22 : decode cX13_isHouse 22 = .ok (.iconst 1, 1) := by decide +kernel
theorem dX13_isHouse_23 : decode cX13_isHouse 23 = .ok (.goto 4, 3) := by decide +kernel
theorem dX13_isHouse_26 : decode cX13_isHouse 26 = .ok (.iconst 0, 1) := by decide +kernel
theorem dX13_isHouse_27 : decode cX13_isHouse 27 = .ok (.ireturn, 1) := by decide +kernel
theorem dX13_isPerson_0 : decode cX13_isPerson 0 = .ok (.aload_n 0, 1) := by decide +kernel
theorem dX13_isPerson_1 : decode cX13_isPerson 1 = .ok (.getfield 335, 3) := by decide +kernel
theorem dX13_isPerson_4 : decode cX13_isPerson 4 = .ok (.ifnull 22, 3) := by decide +kernel
theorem dX13_isPerson_7 : decode cX13_isPerson 7 = .ok (.iload_n 1, 1) := by decide +kernel
theorem dX13_isPerson_8 : decode cX13_isPerson 8 = .ok (.ifCond .lt 18, 3) := by decide +kernel
theorem dX13_isPerson_11 : decode cX13_isPerson 11 = .ok (.iload_n 1, 1) := by decide +kernel
theorem dX13_isPerson_12 : decode cX13_isPerson 12 = .ok (.aload_n 0, 1) := by decide +kernel
theorem dX13_isPerson_13 : decode cX13_isPerson 13 = .ok (.getfield 335, 3) := by decide +kernel
theorem dX13_isPerson_16 : decode cX13_isPerson 16 = .ok (.getfield 199, 3) := by decide +kernel
theorem dX13_isPerson_19 : decode cX13_isPerson 19 = .ok (.if_icmp .ge 7, 3) := by decide +kernel
theorem dX13_isPerson_22 : decode cX13_isPerson 22 = .ok (.iconst 1, 1) := by decide +kernel
theorem dX13_isPerson_23 : decode cX13_isPerson 23 = .ok (.goto 4, 3) := by decide +kernel
theorem dX13_isPerson_26 : decode cX13_isPerson 26 = .ok (.iconst 0, 1) := by decide +kernel
theorem dX13_isPerson_27 : decode cX13_isPerson 27 = .ok (.ireturn, 1) := by decide +kernel
theorem dX13_isGood_0 : decode cX13_isGood 0 = .ok (.aload_n 0, 1) := by decide +kernel
theorem dX13_isGood_1 : decode cX13_isGood 1 = .ok (.getfield 335, 3) := by decide +kernel
theorem dX13_isGood_4 : decode cX13_isGood 4 = .ok (.ifnull 22, 3) := by decide +kernel
theorem dX13_isGood_7 : decode cX13_isGood 7 = .ok (.iload_n 1, 1) := by decide +kernel
theorem dX13_isGood_8 : decode cX13_isGood 8 = .ok (.ifCond .lt 18, 3) := by decide +kernel
theorem dX13_isGood_11 : decode cX13_isGood 11 = .ok (.iload_n 1, 1) := by decide +kernel
theorem dX13_isGood_12 : decode cX13_isGood 12 = .ok (.aload_n 0, 1) := by decide +kernel
theorem dX13_isGood_13 : decode cX13_isGood 13 = .ok (.getfield 335, 3) := by decide +kernel
theorem dX13_isGood_16 : decode cX13_isGood 16 = .ok (.getfield 288, 3) := by decide +kernel
theorem dX13_isGood_19 : decode cX13_isGood 19 = .ok (.if_icmp .ge 7, 3) := by decide +kernel
theorem dX13_isGood_22 : decode cX13_isGood 22 = .ok (.iconst 1, 1) := by decide +kernel
theorem dX13_isGood_23 : decode cX13_isGood 23 = .ok (.goto 4, 3) := by decide +kernel
theorem dX13_isGood_26 : decode cX13_isGood 26 = .ok (.iconst 0, 1) := by decide +kernel
theorem dX13_isGood_27 : decode cX13_isGood 27 = .ok (.ireturn, 1) := by decide +kernel
theorem dX13_mustGo_0 : decode cX13_mustGo 0 = .ok (.aload_n 0, 1) := by decide +kernel
theorem dX13_mustGo_1 : decode cX13_mustGo 1 = .ok (.getfield 17, 3) := by decide +kernel
theorem dX13_mustGo_4 : decode cX13_mustGo 4 = .ok (.bipush 6, 2) := by decide +kernel
theorem dX13_mustGo_6 : decode cX13_mustGo 6 = .ok (.iload_n 1, 1) := by decide +kernel
theorem dX13_mustGo_7 : decode cX13_mustGo 7 = .ok (.iadd, 1) := by decide +kernel
theorem dX13_mustGo_8 : decode cX13_mustGo 8 = .ok (.iaload, 1) := by decide +kernel
theorem dX13_mustGo_9 : decode cX13_mustGo 9 = .ok (.aload_n 0, 1) := by decide +kernel
theorem dX13_mustGo_10 : decode cX13_mustGo 10 = .ok (.getfield 335, 3) := by decide +kernel
theorem dX13_mustGo_13 : decode cX13_mustGo 13 = .ok (.getfield 300, 3) := by decide +kernel
theorem dX13_mustGo_16 : decode cX13_mustGo 16 = .ok (.iload_n 1, 1) := by decide +kernel
theorem dX13_mustGo_17 : decode cX13_mustGo 17 = .ok (.iaload, 1) := by decide +kernel
theorem dX13_mustGo_18 : decode cX13_mustGo 18 = .ok (.if_icmp .eq 7, 3) := by decide +kernel
theorem dX13_mustGo_21 : decode cX13_mustGo 21 = .ok (.iconst 1, 1) := by decide +kernel
theorem dX13_mustGo_22 : decode cX13_mustGo 22 = .ok (.goto 4, 3) := by decide +kernel
theorem dX13_mustGo_25 : decode cX13_mustGo 25 = .ok (.iconst 0, 1) := by decide +kernel
theorem dX13_mustGo_26 : decode cX13_mustGo 26 = .ok (.ireturn, 1) := by decide +kernel
theorem dX13_piecesOf_0 : decode cX13_piecesOf 0 = .ok (.aload_n 0, 1) := by decide +kernel
theorem dX13_piecesOf_1 : decode cX13_piecesOf 1 = .ok (.getfield 335, 3) := by decide +kernel
theorem dX13_piecesOf_4 : decode cX13_piecesOf 4 = .ok (.aload_n 0, 1) := by decide +kernel
theorem dX13_piecesOf_5 : decode cX13_piecesOf 5 = .ok (.getfield 335, 3) := by decide +kernel
theorem dX13_piecesOf_8 : decode cX13_piecesOf 8 = .ok (.getfield 298, 3) := by decide +kernel
theorem dX13_piecesOf_11 : decode cX13_piecesOf 11 = .ok (.iload_n 1, 1) := by decide +kernel
theorem dX13_piecesOf_12 : decode cX13_piecesOf 12 = .ok (.iaload, 1) := by decide +kernel
theorem dX13_piecesOf_13 : decode cX13_piecesOf 13 = .ok (.invokevirtual 346, 3) := by decide +kernel
theorem dX13_piecesOf_16 : decode cX13_piecesOf 16 = .ok (.aload_n 0, 1) := by decide +kernel
theorem dX13_piecesOf_17 : decode cX13_piecesOf 17 = .ok (.getfield 335, 3) := by decide +kernel
theorem dX13_piecesOf_20 : decode cX13_piecesOf 20 = .ok (.aload_n 0, 1) := by decide +kernel
theorem dX13_piecesOf_21 : decode cX13_piecesOf 21 = .ok (.getfield 335, 3) := by decide +kernel
theorem dX13_piecesOf_24 : decode cX13_piecesOf 24 = .ok (.getfield 300, 3) := by decide +kernel
theorem dX13_piecesOf_27 : decode cX13_piecesOf 27 = .ok (.iload_n 1, 1) := by decide +kernel
theorem dX13_piecesOf_28 : decode cX13_piecesOf 28 = .ok (.iaload, 1) := by decide +kernel
theorem dX13_piecesOf_29 : decode cX13_piecesOf 29 = .ok (.invokevirtual 346, 3) := by decide +kernel
theorem dX13_piecesOf_32 : decode cX13_piecesOf 32 = .ok (.invokestatic 349, 3) := by decide +kernel
theorem dX13_piecesOf_35 : decode cX13_piecesOf 35 = .ok (.istore_n 2, 1) := by decide +kernel
theorem dX13_piecesOf_36 : decode cX13_piecesOf 36 = .ok (.aload_n 0, 1) := by decide +kernel
theorem dX13_piecesOf_37 : decode cX13_piecesOf 37 = .ok (.getfield 335, 3) := by decide +kernel
theorem dX13_piecesOf_40 : decode cX13_piecesOf 40 = .ok (.getfield 296, 3) := by decide +kernel
theorem dX13_piecesOf_43 : decode cX13_piecesOf 43 = .ok (.iload_n 1, 1) := by decide +kernel
theorem dX13_piecesOf_44 : decode cX13_piecesOf 44 = .ok (.iaload, 1) := by decide +kernel
theorem dX13_piecesOf_45 : decode cX13_piecesOf 45 = .ok (.iload_n 2, 1) := by decide +kernel
theorem dX13_piecesOf_46 : decode cX13_piecesOf 46 = .ok (.iadd, 1) := by decide +kernel
theorem dX13_piecesOf_47 : decode cX13_piecesOf 47 = .ok (.iconst 1, 1) := by decide +kernel
theorem dX13_piecesOf_48 : decode cX13_piecesOf 48 = .ok (.isub, 1) := by decide +kernel
theorem dX13_piecesOf_49 : decode cX13_piecesOf 49 = .ok (.iload_n 2, 1) := by decide +kernel
theorem dX13_piecesOf_50 : decode cX13_piecesOf 50 = .ok (.idiv, 1) := by decide +kernel
theorem dX13_piecesOf_51 : decode cX13_piecesOf 51 = .ok (.ireturn, 1) := by decide +kernel
theorem dX13_house_0 : decode cX13_house 0 = .ok (.aload_n 0, 1) := by decide +kernel
theorem dX13_house_1 : decode cX13_house 1 = .ok (.iconst 0, 1) := by decide +kernel
theorem dX13_house_2 : decode cX13_house 2 = .ok (.putfield 51, 3) := by decide +kernel
theorem dX13_house_5 : decode cX13_house 5 = .ok (.aload_n 0, 1) := by decide +kernel
theorem dX13_house_6 : decode cX13_house 6 = .ok (.iload_n 1, 1) := by decide +kernel
theorem dX13_house_7 : decode cX13_house 7 = .ok (.invokevirtual 352, 3) := by decide +kernel
theorem dX13_house_10 : decode cX13_house 10 = .ok (.ifCond .eq 12, 3) := by decide +kernel
theorem dX13_house_13 : decode cX13_house 13 = .ok (.iload_n 2, 1) := by decide +kernel
theorem dX13_house_14 : decode cX13_house 14 = .ok (.iconst 0, 1) := by decide +kernel
theorem dX13_house_15 : decode cX13_house 15 = .ok (.iconst 3, 1) := by decide +kernel
theorem dX13_house_16 : decode cX13_house 16 = .ok (.invokestatic 129, 3) := by decide +kernel
theorem dX13_house_19 : decode cX13_house 19 = .ok (.ifCond .ne 9, 3) := by decide +kernel
theorem dX13_house_22 : decode cX13_house 22 = .ok (.aload_n 0, 1) := by decide +kernel
theorem dX13_house_23 : decode cX13_house 23 = .ok (.iconst 1, 1) := by decide +kernel
theorem dX13_house_24 : decode cX13_house 24 = .ok (.invokevirtual 57, 3) := by decide +kernel
theorem dX13_house_27 : decode cX13_house 27 = .ok (.ireturn, 1) := by decide +kernel
theorem dX13_house_28 : decode cX13_house 28 = .ok (.iload_n 2, 1) := by decide +kernel
theorem dX13_house_29 : decode cX13_house 29 = .ok (.iconst 2, 1) := by decide +kernel
theorem dX13_house_30 : decode cX13_house 30 = .ok (.if_icmp .ge 32, 3) := by decide +kernel
theorem dX13_house_33 : decode cX13_house 33 = .ok (.aload_n 0, 1) := by decide +kernel
theorem dX13_house_34 : decode cX13_house 34 = .ok (.iload_n 2, 1) := by decide +kernel
theorem dX13_house_35 : decode cX13_house 35 = .ok (.ifCond .ne 15, 3) := by decide +kernel
theorem dX13_house_38 : decode cX13_house 38 = .ok (.aload_n 0, 1) := by decide +kernel
theorem dX13_house_39 : decode cX13_house 39 = .ok (.getfield 335, 3) := by decide +kernel
theorem dX13_house_42 : decode cX13_house 42 = .ok (.getfield 249, 3) := by decide +kernel
theorem dX13_house_45 : decode cX13_house 45 = .ok (.iload_n 1, 1) := by decide +kernel
theorem dX13_house_46 : decode cX13_house 46 = .ok (.iaload, 1) := by decide +kernel
theorem dX13_house_47 : decode cX13_house 47 = .ok (.goto 11, 3) := by decide +kernel
theorem dX13_house_50 : decode cX13_house 50 = .ok (.aload_n 0, 1) := by decide +kernel
theorem dX13_house_51 : decode cX13_house 51 = .ok (.getfield 335, 3) := by decide +kernel
theorem dX13_house_54 : decode cX13_house 54 = .ok (.iload_n 1, 1) := by decide +kernel
theorem dX13_house_55 : decode cX13_house 55 = .ok (.invokevirtual 346, 3) := by decide +kernel
theorem dX13_house_58 : decode cX13_house 58 = .ok (.invokevirtual 61, 3) := by decide +kernel
theorem dX13_house_61 : decode cX13_house 61 = .ok (.ireturn, 1) := by decide +kernel
theorem dX13_house_62 : decode cX13_house 62 = .ok (.iconst 0, 1) := by decide +kernel
theorem dX13_house_63 : decode cX13_house 63 = .ok (.istore_n 3, 1) := by decide +kernel
theorem dX13_house_64 : decode cX13_house 64 = .ok (.iload_n 2, 1) := by decide +kernel
theorem dX13_house_65 : decode cX13_house 65 = .ok (.iconst 2, 1) := by decide +kernel
theorem dX13_house_66 : decode cX13_house 66 = .ok (.if_icmp .ne 51, 3) := by decide +kernel
theorem dX13_house_69 : decode cX13_house 69 = .ok (.iconst 0, 1) := by decide +kernel
theorem dX13_house_70 : decode cX13_house 70 = .ok (.istore 4, 2) := by decide +kernel
theorem dX13_house_72 : decode cX13_house 72 = .ok (.iload 4, 2) := by decide +kernel
theorem dX13_house_74 : decode cX13_house 74 = .ok (.aload_n 0, 1) := by decide +kernel
theorem dX13_house_75 : decode cX13_house 75 = .ok (.getfield 335, 3) := by decide +kernel
theorem dX13_house_78 : decode cX13_house 78 = .ok (.getfield 199, 3) := by decide +kernel
theorem dX13_house_81 : decode cX13_house 81 = .ok (.if_icmp .ge 33, 3) := by decide +kernel
theorem dX13_house_84 : decode cX13_house 84 = .ok (.iload_n 3, 1) := by decide +kernel
theorem dX13_house_85 : decode cX13_house 85 = .ok (.aload_n 0, 1) := by decide +kernel
theorem dX13_house_86 : decode cX13_house 86 = .ok (.getfield 17, 3) := by decide +kernel
theorem dX13_house_89 : decode cX13_house 89 = .ok (.iconst 0, 1) := by decide +kernel
theorem dX13_house_90 : decode cX13_house 90 = .ok (.iload 4, 2) := by decide +kernel
theorem dX13_house_92 : decode cX13_house 92 = .ok (.iadd, 1) := by decide +kernel
theorem dX13_house_93 : decode cX13_house 93 = .ok (.iaload, 1) := by decide +kernel
theorem dX13_house_94 : decode cX13_house 94 = .ok (.iload_n 1, 1) := by decide +kernel
theorem dX13_house_95 : decode cX13_house 95 = .ok (.if_icmp .ne 10, 3) := by decide +kernel
theorem dX13_house_98 : decode cX13_house 98 = .ok (.iconst 1, 1) := by decide +kernel
theorem dX13_house_99 : decode cX13_house 99 = .ok (.iload 4, 2) := by decide +kernel
theorem dX13_house_101 : decode cX13_house 101 = .ok (.ishl, 1) := by decide +kernel
theorem dX13_house_102 : decode cX13_house 102 = .ok (.goto 4, 3) := by decide +kernel
theorem dX13_house_105 : decode cX13_house 105 = .ok (.iconst 0, 1) := by decide +kernel
theorem dX13_house_106 : decode cX13_house 106 = .ok (.ior, 1) := by decide +kernel
theorem dX13_house_107 : decode cX13_house 107 = .ok (.istore_n 3, 1) := by decide +kernel
theorem dX13_house_108 : decode cX13_house 108 = .ok (.iinc 4 1, 3) := by decide +kernel
theorem dX13_house_111 : decode cX13_house 111 = .ok (.goto (-39), 3) := by decide +kernel
theorem dX13_house_114 : decode cX13_house 114 = .ok (.goto 49, 3) := by decide +kernel
theorem dX13_house_117 : decode cX13_house 117 = .ok (.iconst 0, 1) := by decide +kernel
theorem dX13_house_118 : decode cX13_house 118 = .ok (.istore 4, 2) := by decide +kernel
theorem dX13_house_120 : decode cX13_house 120 = .ok (.iload 4, 2) := by decide +kernel
theorem dX13_house_122 : decode cX13_house 122 = .ok (.aload_n 0, 1) := by decide +kernel
theorem dX13_house_123 : decode cX13_house 123 = .ok (.getfield 335, 3) := by decide +kernel
theorem dX13_house_126 : decode cX13_house 126 = .ok (.getfield 288, 3) := by decide +kernel
theorem dX13_house_129 : decode cX13_house 129 = .ok (.if_icmp .ge 34, 3) := by decide +kernel
theorem dX13_house_132 : decode cX13_house 132 = .ok (.iload_n 3, 1) := by decide +kernel
theorem dX13_house_133 : decode cX13_house 133 = .ok (.aload_n 0, 1) := by decide +kernel
theorem dX13_house_134 : decode cX13_house 134 = .ok (.getfield 17, 3) := by decide +kernel
theorem dX13_house_137 : decode cX13_house 137 = .ok (.bipush 6, 2) := by decide +kernel
theorem dX13_house_139 : decode cX13_house 139 = .ok (.iload 4, 2) := by decide +kernel
theorem dX13_house_141 : decode cX13_house 141 = .ok (.iadd, 1) := by decide +kernel
theorem dX13_house_142 : decode cX13_house 142 = .ok (.iaload, 1) := by decide +kernel
theorem dX13_house_143 : decode cX13_house 143 = .ok (.iload_n 1, 1) := by decide +kernel
theorem dX13_house_144 : decode cX13_house 144 = .ok (.if_icmp .ne 10, 3) := by decide +kernel
theorem dX13_house_147 : decode cX13_house 147 = .ok (.iconst 1, 1) := by decide +kernel
theorem dX13_house_148 : decode cX13_house 148 = .ok (.iload 4, 2) := by decide +kernel
theorem dX13_house_150 : decode cX13_house 150 = .ok (.ishl, 1) := by decide +kernel
theorem dX13_house_151 : decode cX13_house 151 = .ok (.goto 4, 3) := by decide +kernel
theorem dX13_house_154 : decode cX13_house 154 = .ok (.iconst 0, 1) := by decide +kernel
theorem dX13_house_155 : decode cX13_house 155 = .ok (.ior, 1) := by decide +kernel
theorem dX13_house_156 : decode cX13_house 156 = .ok (.istore_n 3, 1) := by decide +kernel
theorem dX13_house_157 : decode cX13_house 157 = .ok (.iinc 4 1, 3) := by decide +kernel
theorem dX13_house_160 : decode cX13_house 160 = .ok (.goto (-40), 3) := by decide +kernel
theorem dX13_house_163 : decode cX13_house 163 = .ok (.aload_n 0, 1) := by decide +kernel
theorem dX13_house_164 : decode cX13_house 164 = .ok (.iload_n 3, 1) := by decide +kernel
theorem dX13_house_165 : decode cX13_house 165 = .ok (.invokevirtual 61, 3) := by decide +kernel
theorem dX13_house_168 : decode cX13_house 168 = .ok (.ireturn, 1) := by decide +kernel
theorem dX13_person_0 : decode cX13_person 0 = .ok (.aload_n 0, 1) := by decide +kernel
theorem dX13_person_1 : decode cX13_person 1 = .ok (.iconst 0, 1) := by decide +kernel
theorem dX13_person_2 : decode cX13_person 2 = .ok (.putfield 51, 3) := by decide +kernel
theorem dX13_person_5 : decode cX13_person 5 = .ok (.aload_n 0, 1) := by decide +kernel
theorem dX13_person_6 : decode cX13_person 6 = .ok (.iload_n 1, 1) := by decide +kernel
theorem dX13_person_7 : decode cX13_person 7 = .ok (.invokevirtual 355, 3) := by decide +kernel
theorem dX13_person_10 : decode cX13_person 10 = .ok (.ifCond .eq 12, 3) := by decide +kernel
theorem dX13_person_13 : decode cX13_person 13 = .ok (.iload_n 2, 1) := by decide +kernel
theorem dX13_person_14 : decode cX13_person 14 = .ok (.iconst 0, 1) := by decide +kernel
theorem dX13_person_15 : decode cX13_person 15 = .ok (.iconst 4, 1) := by decide +kernel
theorem dX13_person_16 : decode cX13_person 16 = .ok (.invokestatic 129, 3) := by decide +kernel
theorem dX13_person_19 : decode cX13_person 19 = .ok (.ifCond .ne 9, 3) := by decide +kernel
theorem dX13_person_22 : decode cX13_person 22 = .ok (.aload_n 0, 1) := by decide +kernel
theorem dX13_person_23 : decode cX13_person 23 = .ok (.iconst 1, 1) := by decide +kernel
theorem dX13_person_24 : decode cX13_person 24 = .ok (.invokevirtual 57, 3) := by decide +kernel
theorem dX13_person_27 : decode cX13_person 27 = .ok (.ireturn, 1) := by decide +kernel
theorem dX13_person_28 : decode cX13_person 28 = .ok (.iload_n 2, 1) := by decide +kernel
theorem dX13_person_29 : decode cX13_person 29 = .ok (.tableswitch 86 0 3 #[31, 45, 59, 73], 31) := by decide +kernel
theorem dX13_person_60 : decode cX13_person 60 = .ok (.aload_n 0, 1) := by decide +kernel
theorem dX13_person_61 : decode cX13_person 61 = .ok (.aload_n 0, 1) := by decide +kernel
theorem dX13_person_62 : decode cX13_person 62 = .ok (.getfield 335, 3) := by decide +kernel
theorem dX13_person_65 : decode cX13_person 65 = .ok (.getfield 278, 3) := by decide +kernel
theorem dX13_person_68 : decode cX13_person 68 = .ok (.iload_n 1, 1) := by decide +kernel
theorem dX13_person_69 : decode cX13_person 69 = .ok (.iaload, 1) := by decide +kernel
theorem dX13_person_70 : decode cX13_person 70 = .ok (.invokevirtual 61, 3) := by decide +kernel
theorem dX13_person_73 : decode cX13_person 73 = .ok (.ireturn, 1) := by decide +kernel
theorem dX13_person_74 : decode cX13_person 74 = .ok (.aload_n 0, 1) := by decide +kernel
theorem dX13_person_75 : decode cX13_person 75 = .ok (.aload_n 0, 1) := by decide +kernel
theorem dX13_person_76 : decode cX13_person 76 = .ok (.getfield 335, 3) := by decide +kernel
theorem dX13_person_79 : decode cX13_person 79 = .ok (.getfield 281, 3) := by decide +kernel
theorem dX13_person_82 : decode cX13_person 82 = .ok (.iload_n 1, 1) := by decide +kernel
theorem dX13_person_83 : decode cX13_person 83 = .ok (.iaload, 1) := by decide +kernel
theorem dX13_person_84 : decode cX13_person 84 = .ok (.invokevirtual 61, 3) := by decide +kernel
theorem dX13_person_87 : decode cX13_person 87 = .ok (.ireturn, 1) := by decide +kernel
theorem dX13_person_88 : decode cX13_person 88 = .ok (.aload_n 0, 1) := by decide +kernel
theorem dX13_person_89 : decode cX13_person 89 = .ok (.aload_n 0, 1) := by decide +kernel
theorem dX13_person_90 : decode cX13_person 90 = .ok (.getfield 335, 3) := by decide +kernel
theorem dX13_person_93 : decode cX13_person 93 = .ok (.getfield 283, 3) := by decide +kernel
theorem dX13_person_96 : decode cX13_person 96 = .ok (.iload_n 1, 1) := by decide +kernel
theorem dX13_person_97 : decode cX13_person 97 = .ok (.iaload, 1) := by decide +kernel
theorem dX13_person_98 : decode cX13_person 98 = .ok (.invokevirtual 61, 3) := by decide +kernel
theorem dX13_person_101 : decode cX13_person 101 = .ok (.ireturn, 1) := by decide +kernel
theorem dX13_person_102 : decode cX13_person 102 = .ok (.aload_n 0, 1) := by decide +kernel
theorem dX13_person_103 : decode cX13_person 103 = .ok (.aload_n 0, 1) := by decide +kernel
theorem dX13_person_104 : decode cX13_person 104 = .ok (.getfield 17, 3) := by decide +kernel
theorem dX13_person_107 : decode cX13_person 107 = .ok (.iconst 0, 1) := by decide +kernel
theorem dX13_person_108 : decode cX13_person 108 = .ok (.iload_n 1, 1) := by decide +kernel
theorem dX13_person_109 : decode cX13_person 109 = .ok (.iadd, 1) := by decide +kernel
theorem dX13_person_110 : decode cX13_person 110 = .ok (.iaload, 1) := by decide +kernel
theorem dX13_person_111 : decode cX13_person 111 = .ok (.invokevirtual 61, 3) := by decide +kernel
theorem dX13_person_114 : decode cX13_person 114 = .ok (.ireturn, 1) := by decide +kernel
theorem dX13_person_115 : decode cX13_person 115 = .ok (.aload_n 0, 1) := by decide +kernel
theorem dX13_person_116 : decode cX13_person 116 = .ok (.aload_n 0, 1) := by decide +kernel
theorem dX13_person_117 : decode cX13_person 117 = .ok (.getfield 335, 3) := by decide +kernel
theorem dX13_person_120 : decode cX13_person 120 = .ok (.iload_n 1, 1) := by decide +kernel
theorem dX13_person_121 : decode cX13_person 121 = .ok (.invokevirtual 358, 3) := by decide +kernel
theorem dX13_person_124 : decode cX13_person 124 = .ok (.invokevirtual 61, 3) := by decide +kernel
theorem dX13_person_127 : decode cX13_person 127 = .ok (.ireturn, 1) := by decide +kernel
theorem dX13_mark_0 : decode cX13_mark 0 = .ok (.aload_n 0, 1) := by decide +kernel
theorem dX13_mark_1 : decode cX13_mark 1 = .ok (.iconst 0, 1) := by decide +kernel
theorem dX13_mark_2 : decode cX13_mark 2 = .ok (.putfield 51, 3) := by decide +kernel
theorem dX13_mark_5 : decode cX13_mark 5 = .ok (.aload_n 0, 1) := by decide +kernel
theorem dX13_mark_6 : decode cX13_mark 6 = .ok (.iload_n 1, 1) := by decide +kernel
theorem dX13_mark_7 : decode cX13_mark 7 = .ok (.invokevirtual 355, 3) := by decide +kernel
theorem dX13_mark_10 : decode cX13_mark 10 = .ok (.ifCond .eq 32, 3) := by decide +kernel
theorem dX13_mark_13 : decode cX13_mark 13 = .ok (.iload_n 2, 1) := by decide +kernel
theorem dX13_mark_14 : decode cX13_mark 14 = .ok (.iconst 0, 1) := by decide +kernel
theorem dX13_mark_15 : decode cX13_mark 15 = .ok (.iconst 4, 1) := by decide +kernel
theorem dX13_mark_16 : decode cX13_mark 16 = .ok (.invokestatic 129, 3) := by decide +kernel
theorem dX13_mark_19 : decode cX13_mark 19 = .ok (.ifCond .eq 23, 3) := by decide +kernel
theorem dX13_mark_22 : decode cX13_mark 22 = .ok (.aload_n 0, 1) := by decide +kernel
theorem dX13_mark_23 : decode cX13_mark 23 = .ok (.aload_n 0, 1) := by decide +kernel
theorem dX13_mark_24 : decode cX13_mark 24 = .ok (.getfield 335, 3) := by decide +kernel
theorem dX13_mark_27 : decode cX13_mark 27 = .ok (.getfield 285, 3) := by decide +kernel
theorem dX13_mark_30 : decode cX13_mark 30 = .ok (.iconst 5, 1) := by decide +kernel
theorem dX13_mark_31 : decode cX13_mark 31 = .ok (.iload_n 1, 1) := by decide +kernel
theorem dX13_mark_32 : decode cX13_mark 32 = .ok (.imul, 1) := by decide +kernel
theorem dX13_mark_33 : decode cX13_mark 33 = .ok (.iload_n 2, 1) := by decide +kernel
theorem dX13_mark_34 : decode cX13_mark 34 = .ok (.iadd, 1) := by decide +kernel
theorem dX13_mark_35 : decode cX13_mark 35 = .ok (.iaload, 1) := by decide +kernel
theorem dX13_mark_36 : decode cX13_mark 36 = .ok (.invokevirtual 61, 3) := by decide +kernel
theorem dX13_mark_39 : decode cX13_mark 39 = .ok (.goto 8, 3) := by decide +kernel
theorem dX13_mark_42 : decode cX13_mark 42 = .ok (.aload_n 0, 1) := by decide +kernel
theorem dX13_mark_43 : decode cX13_mark 43 = .ok (.iconst 1, 1) := by decide +kernel
theorem dX13_mark_44 : decode cX13_mark 44 = .ok (.invokevirtual 57, 3) := by decide +kernel
theorem dX13_mark_47 : decode cX13_mark 47 = .ok (.ireturn, 1) := by decide +kernel
theorem dX13_good_0 : decode cX13_good 0 = .ok (.aload_n 0, 1) := by decide +kernel
theorem dX13_good_1 : decode cX13_good 1 = .ok (.iconst 0, 1) := by decide +kernel
theorem dX13_good_2 : decode cX13_good 2 = .ok (.putfield 51, 3) := by decide +kernel
theorem dX13_good_5 : decode cX13_good 5 = .ok (.aload_n 0, 1) := by decide +kernel
theorem dX13_good_6 : decode cX13_good 6 = .ok (.iload_n 1, 1) := by decide +kernel
theorem dX13_good_7 : decode cX13_good 7 = .ok (.invokevirtual 361, 3) := by decide +kernel
theorem dX13_good_10 : decode cX13_good 10 = .ok (.ifCond .eq 12, 3) := by decide +kernel
theorem dX13_good_13 : decode cX13_good 13 = .ok (.iload_n 2, 1) := by decide +kernel
theorem dX13_good_14 : decode cX13_good 14 = .ok (.iconst 0, 1) := by decide +kernel
theorem dX13_good_15 : decode cX13_good 15 = .ok (.iconst 3, 1) := by decide +kernel
theorem dX13_good_16 : decode cX13_good 16 = .ok (.invokestatic 129, 3) := by decide +kernel
theorem dX13_good_19 : decode cX13_good 19 = .ok (.ifCond .ne 9, 3) := by decide +kernel
theorem dX13_good_22 : decode cX13_good 22 = .ok (.aload_n 0, 1) := by decide +kernel
theorem dX13_good_23 : decode cX13_good 23 = .ok (.iconst 1, 1) := by decide +kernel
theorem dX13_good_24 : decode cX13_good 24 = .ok (.invokevirtual 57, 3) := by decide +kernel
theorem dX13_good_27 : decode cX13_good 27 = .ok (.ireturn, 1) := by decide +kernel
theorem dX13_good_28 : decode cX13_good 28 = .ok (.iload_n 2, 1) := by decide +kernel
theorem dX13_good_29 : decode cX13_good 29 = .ok (.tableswitch 69 0 2 #[27, 41, 55], 27) := by decide +kernel
theorem dX13_good_56 : decode cX13_good 56 = .ok (.aload_n 0, 1) := by decide +kernel
theorem dX13_good_57 : decode cX13_good 57 = .ok (.aload_n 0, 1) := by decide +kernel
theorem dX13_good_58 : decode cX13_good 58 = .ok (.getfield 335, 3) := by decide +kernel
theorem dX13_good_61 : decode cX13_good 61 = .ok (.getfield 296, 3) := by decide +kernel
theorem dX13_good_64 : decode cX13_good 64 = .ok (.iload_n 1, 1) := by decide +kernel
theorem dX13_good_65 : decode cX13_good 65 = .ok (.iaload, 1) := by decide +kernel
theorem dX13_good_66 : decode cX13_good 66 = .ok (.invokevirtual 61, 3) := by decide +kernel
theorem dX13_good_69 : decode cX13_good 69 = .ok (.ireturn, 1) := by decide +kernel
theorem dX13_good_70 : decode cX13_good 70 = .ok (.aload_n 0, 1) := by decide +kernel
theorem dX13_good_71 : decode cX13_good 71 = .ok (.aload_n 0, 1) := by decide +kernel
theorem dX13_good_72 : decode cX13_good 72 = .ok (.getfield 335, 3) := by decide +kernel
theorem dX13_good_75 : decode cX13_good 75 = .ok (.getfield 300, 3) := by decide +kernel
theorem dX13_good_78 : decode cX13_good 78 = .ok (.iload_n 1, 1) := by decide +kernel
theorem dX13_good_79 : decode cX13_good 79 = .ok (.iaload, 1) := by decide +kernel
theorem dX13_good_80 : decode cX13_good 80 = .ok (.invokevirtual 61, 3) := by decide +kernel
theorem dX13_good_83 : decode cX13_good 83 = .ok (.ireturn, 1) := by decide +kernel
theorem dX13_good_84 : decode cX13_good 84 = .ok (.aload_n 0, 1) := by decide +kernel
theorem dX13_good_85 : decode cX13_good 85 = .ok (.aload_n 0, 1) := by decide +kernel
theorem dX13_good_86 : decode cX13_good 86 = .ok (.getfield 17, 3) := by decide +kernel
theorem dX13_good_89 : decode cX13_good 89 = .ok (.bipush 6, 2) := by decide +kernel
theorem dX13_good_91 : decode cX13_good 91 = .ok (.iload_n 1, 1) := by decide +kernel
theorem dX13_good_92 : decode cX13_good 92 = .ok (.iadd, 1) := by decide +kernel
theorem dX13_good_93 : decode cX13_good 93 = .ok (.iaload, 1) := by decide +kernel
theorem dX13_good_94 : decode cX13_good 94 = .ok (.invokevirtual 61, 3) := by decide +kernel
theorem dX13_good_97 : decode cX13_good 97 = .ok (.ireturn, 1) := by decide +kernel
theorem dX13_good_98 : decode cX13_good 98 = .ok (.aload_n 0, 1) := by decide +kernel
theorem dX13_good_99 : decode cX13_good 99 = .ok (.aload_n 0, 1) := by decide +kernel
theorem dX13_good_100 : decode cX13_good 100 = .ok (.iload_n 1, 1) := by decide +kernel
theorem dX13_good_101 : decode cX13_good 101 = .ok (.invokevirtual 364, 3) := by decide +kernel
theorem dX13_good_104 : decode cX13_good 104 = .ok (.invokevirtual 61, 3) := by decide +kernel
theorem dX13_good_107 : decode cX13_good 107 = .ok (.ireturn, 1) := by decide +kernel
theorem dX13_light_0 : decode cX13_light 0 = .ok (.aload_n 0, 1) := by decide +kernel
theorem dX13_light_1 : decode cX13_light 1 = .ok (.iconst 0, 1) := by decide +kernel
theorem dX13_light_2 : decode cX13_light 2 = .ok (.putfield 51, 3) := by decide +kernel
theorem dX13_light_5 : decode cX13_light 5 = .ok (.aload_n 0, 1) := by decide +kernel
theorem dX13_light_6 : decode cX13_light 6 = .ok (.getfield 335, 3) := by decide +kernel
theorem dX13_light_9 : decode cX13_light 9 = .ok (.ifnonnull 9, 3) := by decide +kernel
theorem dX13_light_12 : decode cX13_light 12 = .ok (.aload_n 0, 1) := by decide +kernel
theorem dX13_light_13 : decode cX13_light 13 = .ok (.iconst 1, 1) := by decide +kernel
theorem dX13_light_14 : decode cX13_light 14 = .ok (.invokevirtual 57, 3) := by decide +kernel
theorem dX13_light_17 : decode cX13_light 17 = .ok (.ireturn, 1) := by decide +kernel
theorem dX13_light_18 : decode cX13_light 18 = .ok (.iload_n 1, 1) := by decide +kernel
theorem dX13_light_19 : decode cX13_light 19 = .ok (.iconst 0, 1) := by decide +kernel
theorem dX13_light_20 : decode cX13_light 20 = .ok (.bipush 23, 2) := by decide +kernel
theorem dX13_light_22 : decode cX13_light 22 = .ok (.invokestatic 129, 3) := by decide +kernel
theorem dX13_light_25 : decode cX13_light 25 = .ok (.ifCond .eq 26, 3) := by decide +kernel
theorem dX13_light_28 : decode cX13_light 28 = .ok (.aload_n 0, 1) := by decide +kernel
theorem dX13_light_29 : decode cX13_light 29 = .ok (.aload_n 0, 1) := by decide +kernel
theorem dX13_light_30 : decode cX13_light 30 = .ok (.getfield 335, 3) := by decide +kernel
theorem dX13_light_33 : decode cX13_light 33 = .ok (.iload_n 1, 1) := by decide +kernel
theorem dX13_light_34 : decode cX13_light 34 = .ok (.invokevirtual 367, 3) := by decide +kernel
theorem dX13_light_37 : decode cX13_light 37 = .ok (.ifCond .eq 7, 3) := by decide +kernel
theorem dX13_light_40 : decode cX13_light 40 = .ok (.iconst 1, 1) := by decide +kernel
theorem dX13_light_41 : decode cX13_light 41 = .ok (.goto 4, 3) := by decide +kernel
theorem dX13_light_44 : decode cX13_light 44 = .ok (.iconst 0, 1) := by decide +kernel
theorem dX13_light_45 : decode cX13_light 45 = .ok (.invokevirtual 61, 3) := by decide +kernel
theorem dX13_light_48 : decode cX13_light 48 = .ok (.goto 8, 3) := by decide +kernel
theorem dX13_light_51 : decode cX13_light 51 = .ok (.aload_n 0, 1) := by decide +kernel
theorem dX13_light_52 : decode cX13_light 52 = .ok (.iconst 2, 1) := by decide +kernel
theorem dX13_light_53 : decode cX13_light 53 = .ok (.invokevirtual 57, 3) := by decide +kernel
theorem dX13_light_56 : decode cX13_light 56 = .ok (.ireturn, 1) := by decide +kernel
theorem dX13_refusesHour_0 : decode cX13_refusesHour 0 = .ok (.iload_n 1, 1) := by decide +kernel
theorem dX13_refusesHour_1 : decode cX13_refusesHour 1 = .ok (.ifCond .ne 7, 3) := by decide +kernel
theorem dX13_refusesHour_4 : decode cX13_refusesHour 4 = .ok (.iconst 1, 1) := by decide +kernel
theorem dX13_refusesHour_5 : decode cX13_refusesHour 5 = .ok (.goto 18, 3) := by decide +kernel
theorem dX13_refusesHour_8 : decode cX13_refusesHour 8 = .ok (.iload_n 2, 1) := by decide +kernel
theorem dX13_refusesHour_9 : decode cX13_refusesHour 9 = .ok (.iconst 0, 1) := by decide +kernel
theorem dX13_refusesHour_10 : decode cX13_refusesHour 10 = .ok (.bipush 23, 2) := by decide +kernel
theorem dX13_refusesHour_12 : decode cX13_refusesHour 12 = .ok (.invokestatic 129, 3) := by decide +kernel
theorem dX13_refusesHour_15 : decode cX13_refusesHour 15 = .ok (.ifCond .eq 7, 3) := by decide +kernel
theorem dX13_refusesHour_18 : decode cX13_refusesHour 18 = .ok (.iconst 0, 1) := by decide +kernel
theorem dX13_refusesHour_19 : decode cX13_refusesHour 19 = .ok (.goto 4, 3) := by decide +kernel
theorem dX13_refusesHour_22 : decode cX13_refusesHour 22 = .ok (.iconst 2, 1) := by decide +kernel
theorem dX13_refusesHour_23 : decode cX13_refusesHour 23 = .ok (.ireturn, 1) := by decide +kernel
theorem dX13_seen_0 : decode cX13_seen 0 = .ok (.aload_n 0, 1) := by decide +kernel
theorem dX13_seen_1 : decode cX13_seen 1 = .ok (.iconst 0, 1) := by decide +kernel
theorem dX13_seen_2 : decode cX13_seen 2 = .ok (.putfield 51, 3) := by decide +kernel
theorem dX13_seen_5 : decode cX13_seen 5 = .ok (.aload_n 0, 1) := by decide +kernel
theorem dX13_seen_6 : decode cX13_seen 6 = .ok (.aload_n 0, 1) := by decide +kernel
theorem dX13_seen_7 : decode cX13_seen 7 = .ok (.iload_n 1, 1) := by decide +kernel
theorem dX13_seen_8 : decode cX13_seen 8 = .ok (.invokevirtual 355, 3) := by decide +kernel
theorem dX13_seen_11 : decode cX13_seen 11 = .ok (.ifCond .eq 15, 3) := by decide +kernel
theorem dX13_seen_14 : decode cX13_seen 14 = .ok (.aload_n 0, 1) := by decide +kernel
theorem dX13_seen_15 : decode cX13_seen 15 = .ok (.iload_n 2, 1) := by decide +kernel
theorem dX13_seen_16 : decode cX13_seen 16 = .ok (.invokevirtual 352, 3) := by decide +kernel
theorem dX13_seen_19 : decode cX13_seen 19 = .ok (.ifCond .eq 7, 3) := by decide +kernel
theorem dX13_seen_22 : decode cX13_seen 22 = .ok (.iconst 1, 1) := by decide +kernel
theorem dX13_seen_23 : decode cX13_seen 23 = .ok (.goto 4, 3) := by decide +kernel
theorem dX13_seen_26 : decode cX13_seen 26 = .ok (.iconst 0, 1) := by decide +kernel
theorem dX13_seen_27 : decode cX13_seen 27 = .ok (.iload_n 3, 1) := by decide +kernel
theorem dX13_seen_28 : decode cX13_seen 28 = .ok (.invokevirtual 370, 3) := by decide +kernel
theorem dX13_seen_31 : decode cX13_seen 31 = .ok (.istore 4, 2) := by decide +kernel
theorem dX13_seen_33 : decode cX13_seen 33 = .ok (.iload 4, 2) := by decide +kernel
theorem dX13_seen_35 : decode cX13_seen 35 = .ok (.ifCond .le 12, 3) := by decide +kernel
theorem dX13_seen_38 : decode cX13_seen 38 = .ok (.aload_n 0, 1) := by decide +kernel
theorem dX13_seen_39 : decode cX13_seen 39 = .ok (.iload 4, 2) := by decide +kernel
theorem dX13_seen_41 : decode cX13_seen 41 = .ok (.invokevirtual 57, 3) := by decide +kernel
theorem dX13_seen_44 : decode cX13_seen 44 = .ok (.goto 17, 3) := by decide +kernel
theorem dX13_seen_47 : decode cX13_seen 47 = .ok (.aload_n 0, 1) := by decide +kernel
theorem dX13_seen_48 : decode cX13_seen 48 = .ok (.aload_n 0, 1) := by decide +kernel
theorem dX13_seen_49 : decode cX13_seen 49 = .ok (.getfield 335, 3) := by decide +kernel
theorem dX13_seen_52 : decode cX13_seen 52 = .ok (.iload_n 1, 1) := by decide +kernel
theorem dX13_seen_53 : decode cX13_seen 53 = .ok (.iload_n 2, 1) := by decide +kernel
theorem dX13_seen_54 : decode cX13_seen 54 = .ok (.iload_n 3, 1) := by decide +kernel
theorem dX13_seen_55 : decode cX13_seen 55 = .ok (.invokevirtual 374, 3) := by decide +kernel
theorem dX13_seen_58 : decode cX13_seen 58 = .ok (.invokevirtual 61, 3) := by decide +kernel
theorem dX13_seen_61 : decode cX13_seen 61 = .ok (.ireturn, 1) := by decide +kernel
theorem dX13_takenFor_0 : decode cX13_takenFor 0 = .ok (.iconst 0, 1) := by decide +kernel
theorem dX13_takenFor_1 : decode cX13_takenFor 1 = .ok (.istore 4, 2) := by decide +kernel
theorem dX13_takenFor_3 : decode cX13_takenFor 3 = .ok (.iconst 0, 1) := by decide +kernel
theorem dX13_takenFor_4 : decode cX13_takenFor 4 = .ok (.istore 5, 2) := by decide +kernel
theorem dX13_takenFor_6 : decode cX13_takenFor 6 = .ok (.iload 5, 2) := by decide +kernel
theorem dX13_takenFor_8 : decode cX13_takenFor 8 = .ok (.aload_n 0, 1) := by decide +kernel
theorem dX13_takenFor_9 : decode cX13_takenFor 9 = .ok (.getfield 335, 3) := by decide +kernel
theorem dX13_takenFor_12 : decode cX13_takenFor 12 = .ok (.getfield 199, 3) := by decide +kernel
theorem dX13_takenFor_15 : decode cX13_takenFor 15 = .ok (.if_icmp .ge 37, 3) := by decide +kernel
theorem dX13_takenFor_18 : decode cX13_takenFor 18 = .ok (.iload 4, 2) := by decide +kernel
theorem dX13_takenFor_20 : decode cX13_takenFor 20 = .ok (.aload_n 0, 1) := by decide +kernel
theorem dX13_takenFor_21 : decode cX13_takenFor 21 = .ok (.getfield 335, 3) := by decide +kernel
theorem dX13_takenFor_24 : decode cX13_takenFor 24 = .ok (.iload_n 1, 1) := by decide +kernel
theorem dX13_takenFor_25 : decode cX13_takenFor 25 = .ok (.iload 5, 2) := by decide +kernel
theorem dX13_takenFor_27 : decode cX13_takenFor 27 = .ok (.iload_n 2, 1) := by decide +kernel
theorem dX13_takenFor_28 : decode cX13_takenFor 28 = .ok (.iload_n 3, 1) := by decide +kernel
theorem dX13_takenFor_29 : decode cX13_takenFor 29 = .ok (.invokevirtual 378, 3) := by decide +kernel
theorem dX13_takenFor_32 : decode cX13_takenFor 32 = .ok (.ifCond .eq 10, 3) := by decide +kernel
theorem dX13_takenFor_35 : decode cX13_takenFor 35 = .ok (.iconst 1, 1) := by decide +kernel
theorem dX13_takenFor_36 : decode cX13_takenFor 36 = .ok (.iload 5, 2) := by decide +kernel
theorem dX13_takenFor_38 : decode cX13_takenFor 38 = .ok (.ishl, 1) := by decide +kernel
theorem dX13_takenFor_39 : decode cX13_takenFor 39 = .ok (.goto 4, 3) := by decide +kernel
theorem dX13_takenFor_42 : decode cX13_takenFor 42 = .ok (.iconst 0, 1) := by decide +kernel
theorem dX13_takenFor_43 : decode cX13_takenFor 43 = .ok (.ior, 1) := by decide +kernel
theorem dX13_takenFor_44 : decode cX13_takenFor 44 = .ok (.istore 4, 2) := by decide +kernel
theorem dX13_takenFor_46 : decode cX13_takenFor 46 = .ok (.iinc 5 1, 3) := by decide +kernel
theorem dX13_takenFor_49 : decode cX13_takenFor 49 = .ok (.goto (-43), 3) := by decide +kernel
theorem dX13_takenFor_52 : decode cX13_takenFor 52 = .ok (.iload 4, 2) := by decide +kernel
theorem dX13_takenFor_54 : decode cX13_takenFor 54 = .ok (.ireturn, 1) := by decide +kernel
theorem dX13_taken_0 : decode cX13_taken 0 = .ok (.aload_n 0, 1) := by decide +kernel
theorem dX13_taken_1 : decode cX13_taken 1 = .ok (.iconst 0, 1) := by decide +kernel
theorem dX13_taken_2 : decode cX13_taken 2 = .ok (.putfield 51, 3) := by decide +kernel
theorem dX13_taken_5 : decode cX13_taken 5 = .ok (.aload_n 0, 1) := by decide +kernel
theorem dX13_taken_6 : decode cX13_taken 6 = .ok (.aload_n 0, 1) := by decide +kernel
theorem dX13_taken_7 : decode cX13_taken 7 = .ok (.iload_n 1, 1) := by decide +kernel
theorem dX13_taken_8 : decode cX13_taken 8 = .ok (.invokevirtual 355, 3) := by decide +kernel
theorem dX13_taken_11 : decode cX13_taken 11 = .ok (.ifCond .eq 15, 3) := by decide +kernel
theorem dX13_taken_14 : decode cX13_taken 14 = .ok (.aload_n 0, 1) := by decide +kernel
theorem dX13_taken_15 : decode cX13_taken 15 = .ok (.iload_n 2, 1) := by decide +kernel
theorem dX13_taken_16 : decode cX13_taken 16 = .ok (.invokevirtual 352, 3) := by decide +kernel
theorem dX13_taken_19 : decode cX13_taken 19 = .ok (.ifCond .eq 7, 3) := by decide +kernel
theorem dX13_taken_22 : decode cX13_taken 22 = .ok (.iconst 1, 1) := by decide +kernel
theorem dX13_taken_23 : decode cX13_taken 23 = .ok (.goto 4, 3) := by decide +kernel
theorem dX13_taken_26 : decode cX13_taken 26 = .ok (.iconst 0, 1) := by decide +kernel
theorem dX13_taken_27 : decode cX13_taken 27 = .ok (.iload_n 3, 1) := by decide +kernel
theorem dX13_taken_28 : decode cX13_taken 28 = .ok (.invokevirtual 370, 3) := by decide +kernel
theorem dX13_taken_31 : decode cX13_taken 31 = .ok (.istore 4, 2) := by decide +kernel
theorem dX13_taken_33 : decode cX13_taken 33 = .ok (.iload 4, 2) := by decide +kernel
theorem dX13_taken_35 : decode cX13_taken 35 = .ok (.ifCond .le 12, 3) := by decide +kernel
theorem dX13_taken_38 : decode cX13_taken 38 = .ok (.aload_n 0, 1) := by decide +kernel
theorem dX13_taken_39 : decode cX13_taken 39 = .ok (.iload 4, 2) := by decide +kernel
theorem dX13_taken_41 : decode cX13_taken 41 = .ok (.invokevirtual 57, 3) := by decide +kernel
theorem dX13_taken_44 : decode cX13_taken 44 = .ok (.goto 14, 3) := by decide +kernel
theorem dX13_taken_47 : decode cX13_taken 47 = .ok (.aload_n 0, 1) := by decide +kernel
theorem dX13_taken_48 : decode cX13_taken 48 = .ok (.aload_n 0, 1) := by decide +kernel
theorem dX13_taken_49 : decode cX13_taken 49 = .ok (.iload_n 1, 1) := by decide +kernel
theorem dX13_taken_50 : decode cX13_taken 50 = .ok (.iload_n 2, 1) := by decide +kernel
theorem dX13_taken_51 : decode cX13_taken 51 = .ok (.iload_n 3, 1) := by decide +kernel
theorem dX13_taken_52 : decode cX13_taken 52 = .ok (.invokevirtual 382, 3) := by decide +kernel
theorem dX13_taken_55 : decode cX13_taken 55 = .ok (.invokevirtual 61, 3) := by decide +kernel
theorem dX13_taken_58 : decode cX13_taken 58 = .ok (.ireturn, 1) := by decide +kernel
theorem dX13_pairs_0 : decode cX13_pairs 0 = .ok (.aload_n 0, 1) := by decide +kernel
theorem dX13_pairs_1 : decode cX13_pairs 1 = .ok (.iconst 0, 1) := by decide +kernel
theorem dX13_pairs_2 : decode cX13_pairs 2 = .ok (.putfield 51, 3) := by decide +kernel
theorem dX13_pairs_5 : decode cX13_pairs 5 = .ok (.aload_n 0, 1) := by decide +kernel
theorem dX13_pairs_6 : decode cX13_pairs 6 = .ok (.aload_n 0, 1) := by decide +kernel
theorem dX13_pairs_7 : decode cX13_pairs 7 = .ok (.iload_n 1, 1) := by decide +kernel
theorem dX13_pairs_8 : decode cX13_pairs 8 = .ok (.invokevirtual 352, 3) := by decide +kernel
theorem dX13_pairs_11 : decode cX13_pairs 11 = .ok (.iload_n 2, 1) := by decide +kernel
theorem dX13_pairs_12 : decode cX13_pairs 12 = .ok (.invokevirtual 370, 3) := by decide +kernel
theorem dX13_pairs_15 : decode cX13_pairs 15 = .ok (.istore_n 3, 1) := by decide +kernel
theorem dX13_pairs_16 : decode cX13_pairs 16 = .ok (.iload_n 3, 1) := by decide +kernel
theorem dX13_pairs_17 : decode cX13_pairs 17 = .ok (.ifCond .le 9, 3) := by decide +kernel
theorem dX13_pairs_20 : decode cX13_pairs 20 = .ok (.aload_n 0, 1) := by decide +kernel
theorem dX13_pairs_21 : decode cX13_pairs 21 = .ok (.iload_n 3, 1) := by decide +kernel
theorem dX13_pairs_22 : decode cX13_pairs 22 = .ok (.invokevirtual 57, 3) := by decide +kernel
theorem dX13_pairs_25 : decode cX13_pairs 25 = .ok (.ireturn, 1) := by decide +kernel
theorem dX13_pairs_26 : decode cX13_pairs 26 = .ok (.iconst 0, 1) := by decide +kernel
theorem dX13_pairs_27 : decode cX13_pairs 27 = .ok (.istore 4, 2) := by decide +kernel
theorem dX13_pairs_29 : decode cX13_pairs 29 = .ok (.iconst 0, 1) := by decide +kernel
theorem dX13_pairs_30 : decode cX13_pairs 30 = .ok (.istore 5, 2) := by decide +kernel
theorem dX13_pairs_32 : decode cX13_pairs 32 = .ok (.iload 5, 2) := by decide +kernel
theorem dX13_pairs_34 : decode cX13_pairs 34 = .ok (.aload_n 0, 1) := by decide +kernel
theorem dX13_pairs_35 : decode cX13_pairs 35 = .ok (.getfield 335, 3) := by decide +kernel
theorem dX13_pairs_38 : decode cX13_pairs 38 = .ok (.getfield 199, 3) := by decide +kernel
theorem dX13_pairs_41 : decode cX13_pairs 41 = .ok (.if_icmp .ge 25, 3) := by decide +kernel
theorem dX13_pairs_44 : decode cX13_pairs 44 = .ok (.iload 4, 2) := by decide +kernel
theorem dX13_pairs_46 : decode cX13_pairs 46 = .ok (.aload_n 0, 1) := by decide +kernel
theorem dX13_pairs_47 : decode cX13_pairs 47 = .ok (.iload 5, 2) := by decide +kernel
theorem dX13_pairs_49 : decode cX13_pairs 49 = .ok (.iload_n 1, 1) := by decide +kernel
theorem dX13_pairs_50 : decode cX13_pairs 50 = .ok (.iload_n 2, 1) := by decide +kernel
theorem dX13_pairs_51 : decode cX13_pairs 51 = .ok (.invokevirtual 382, 3) := by decide +kernel
theorem dX13_pairs_54 : decode cX13_pairs 54 = .ok (.invokestatic 385, 3) := by decide +kernel
theorem dX13_pairs_57 : decode cX13_pairs 57 = .ok (.iadd, 1) := by decide +kernel
theorem dX13_pairs_58 : decode cX13_pairs 58 = .ok (.istore 4, 2) := by decide +kernel
theorem dX13_pairs_60 : decode cX13_pairs 60 = .ok (.iinc 5 1, 3) := by decide +kernel
theorem dX13_pairs_63 : decode cX13_pairs 63 = .ok (.goto (-31), 3) := by decide +kernel
theorem dX13_pairs_66 : decode cX13_pairs 66 = .ok (.aload_n 0, 1) := by decide +kernel
theorem dX13_pairs_67 : decode cX13_pairs 67 = .ok (.iload 4, 2) := by decide +kernel
theorem dX13_pairs_69 : decode cX13_pairs 69 = .ok (.iconst 2, 1) := by decide +kernel
theorem dX13_pairs_70 : decode cX13_pairs 70 = .ok (.idiv, 1) := by decide +kernel
theorem dX13_pairs_71 : decode cX13_pairs 71 = .ok (.invokevirtual 61, 3) := by decide +kernel
theorem dX13_pairs_74 : decode cX13_pairs 74 = .ok (.ireturn, 1) := by decide +kernel
theorem dX13_knownAt_0 : decode cX13_knownAt 0 = .ok (.aload_n 0, 1) := by decide +kernel
theorem dX13_knownAt_1 : decode cX13_knownAt 1 = .ok (.iconst 0, 1) := by decide +kernel
theorem dX13_knownAt_2 : decode cX13_knownAt 2 = .ok (.putfield 51, 3) := by decide +kernel
theorem dX13_knownAt_5 : decode cX13_knownAt 5 = .ok (.aload_n 0, 1) := by decide +kernel
theorem dX13_knownAt_6 : decode cX13_knownAt 6 = .ok (.iload_n 1, 1) := by decide +kernel
theorem dX13_knownAt_7 : decode cX13_knownAt 7 = .ok (.invokevirtual 355, 3) := by decide +kernel
theorem dX13_knownAt_10 : decode cX13_knownAt 10 = .ok (.ifCond .ne 9, 3) := by decide +kernel
theorem dX13_knownAt_13 : decode cX13_knownAt 13 = .ok (.aload_n 0, 1) := by decide +kernel
theorem dX13_knownAt_14 : decode cX13_knownAt 14 = .ok (.iconst 1, 1) := by decide +kernel
theorem dX13_knownAt_15 : decode cX13_knownAt 15 = .ok (.invokevirtual 57, 3) := by decide +kernel
theorem dX13_knownAt_18 : decode cX13_knownAt 18 = .ok (.ireturn, 1) := by decide +kernel
theorem dX13_knownAt_19 : decode cX13_knownAt 19 = .ok (.iconst 0, 1) := by decide +kernel
theorem dX13_knownAt_20 : decode cX13_knownAt 20 = .ok (.istore_n 2, 1) := by decide +kernel
theorem dX13_knownAt_21 : decode cX13_knownAt 21 = .ok (.iconst 0, 1) := by decide +kernel
theorem dX13_knownAt_22 : decode cX13_knownAt 22 = .ok (.istore_n 3, 1) := by decide +kernel
theorem dX13_knownAt_23 : decode cX13_knownAt 23 = .ok (.iload_n 3, 1) := by decide +kernel
theorem dX13_knownAt_24 : decode cX13_knownAt 24 = .ok (.aload_n 0, 1) := by decide +kernel
theorem dX13_knownAt_25 : decode cX13_knownAt 25 = .ok (.getfield 335, 3) := by decide +kernel
theorem dX13_knownAt_28 : decode cX13_knownAt 28 = .ok (.getfield 196, 3) := by decide +kernel
theorem dX13_knownAt_31 : decode cX13_knownAt 31 = .ok (.if_icmp .ge 35, 3) := by decide +kernel
theorem dX13_knownAt_34 : decode cX13_knownAt 34 = .ok (.iload_n 2, 1) := by decide +kernel
theorem dX13_knownAt_35 : decode cX13_knownAt 35 = .ok (.aload_n 0, 1) := by decide +kernel
theorem dX13_knownAt_36 : decode cX13_knownAt 36 = .ok (.iload_n 1, 1) := by decide +kernel
theorem dX13_knownAt_37 : decode cX13_knownAt 37 = .ok (.iload_n 3, 1) := by decide +kernel
theorem dX13_knownAt_38 : decode cX13_knownAt 38 = .ok (.aload_n 0, 1) := by decide +kernel
theorem dX13_knownAt_39 : decode cX13_knownAt 39 = .ok (.getfield 335, 3) := by decide +kernel
theorem dX13_knownAt_42 : decode cX13_knownAt 42 = .ok (.getfield 232, 3) := by decide +kernel
theorem dX13_knownAt_45 : decode cX13_knownAt 45 = .ok (.invokevirtual 382, 3) := by decide +kernel
theorem dX13_knownAt_48 : decode cX13_knownAt 48 = .ok (.ifCond .ne 9, 3) := by decide +kernel
theorem dX13_knownAt_51 : decode cX13_knownAt 51 = .ok (.iconst 1, 1) := by decide +kernel
theorem dX13_knownAt_52 : decode cX13_knownAt 52 = .ok (.iload_n 3, 1) := by decide +kernel
theorem dX13_knownAt_53 : decode cX13_knownAt 53 = .ok (.ishl, 1) := by decide +kernel
theorem dX13_knownAt_54 : decode cX13_knownAt 54 = .ok (.goto 4, 3) := by decide +kernel
theorem dX13_knownAt_57 : decode cX13_knownAt 57 = .ok (.iconst 0, 1) := by decide +kernel
theorem dX13_knownAt_58 : decode cX13_knownAt 58 = .ok (.ior, 1) := by decide +kernel
theorem dX13_knownAt_59 : decode cX13_knownAt 59 = .ok (.istore_n 2, 1) := by decide +kernel
theorem dX13_knownAt_60 : decode cX13_knownAt 60 = .ok (.iinc 3 1, 3) := by decide +kernel
theorem dX13_knownAt_63 : decode cX13_knownAt 63 = .ok (.goto (-40), 3) := by decide +kernel
theorem dX13_knownAt_66 : decode cX13_knownAt 66 = .ok (.aload_n 0, 1) := by decide +kernel
theorem dX13_knownAt_67 : decode cX13_knownAt 67 = .ok (.iload_n 2, 1) := by decide +kernel
theorem dX13_knownAt_68 : decode cX13_knownAt 68 = .ok (.invokevirtual 61, 3) := by decide +kernel
theorem dX13_knownAt_71 : decode cX13_knownAt 71 = .ok (.ireturn, 1) := by decide +kernel
theorem dX13_fine_0 : decode cX13_fine 0 = .ok (.aload_n 0, 1) := by decide +kernel
theorem dX13_fine_1 : decode cX13_fine 1 = .ok (.iconst 0, 1) := by decide +kernel
theorem dX13_fine_2 : decode cX13_fine 2 = .ok (.putfield 51, 3) := by decide +kernel
theorem dX13_fine_5 : decode cX13_fine 5 = .ok (.aload_n 0, 1) := by decide +kernel
theorem dX13_fine_6 : decode cX13_fine 6 = .ok (.aload_n 0, 1) := by decide +kernel
theorem dX13_fine_7 : decode cX13_fine 7 = .ok (.iload_n 1, 1) := by decide +kernel
theorem dX13_fine_8 : decode cX13_fine 8 = .ok (.invokevirtual 355, 3) := by decide +kernel
theorem dX13_fine_11 : decode cX13_fine 11 = .ok (.ifCond .eq 15, 3) := by decide +kernel
theorem dX13_fine_14 : decode cX13_fine 14 = .ok (.aload_n 0, 1) := by decide +kernel
theorem dX13_fine_15 : decode cX13_fine 15 = .ok (.iload_n 2, 1) := by decide +kernel
theorem dX13_fine_16 : decode cX13_fine 16 = .ok (.invokevirtual 352, 3) := by decide +kernel
theorem dX13_fine_19 : decode cX13_fine 19 = .ok (.ifCond .eq 7, 3) := by decide +kernel
theorem dX13_fine_22 : decode cX13_fine 22 = .ok (.iconst 1, 1) := by decide +kernel
theorem dX13_fine_23 : decode cX13_fine 23 = .ok (.goto 4, 3) := by decide +kernel
theorem dX13_fine_26 : decode cX13_fine 26 = .ok (.iconst 0, 1) := by decide +kernel
theorem dX13_fine_27 : decode cX13_fine 27 = .ok (.iload_n 3, 1) := by decide +kernel
theorem dX13_fine_28 : decode cX13_fine 28 = .ok (.invokevirtual 370, 3) := by decide +kernel
theorem dX13_fine_31 : decode cX13_fine 31 = .ok (.istore 4, 2) := by decide +kernel
theorem dX13_fine_33 : decode cX13_fine 33 = .ok (.iload 4, 2) := by decide +kernel
theorem dX13_fine_35 : decode cX13_fine 35 = .ok (.ifCond .le 12, 3) := by decide +kernel
theorem dX13_fine_38 : decode cX13_fine 38 = .ok (.aload_n 0, 1) := by decide +kernel
theorem dX13_fine_39 : decode cX13_fine 39 = .ok (.iload 4, 2) := by decide +kernel
theorem dX13_fine_41 : decode cX13_fine 41 = .ok (.invokevirtual 57, 3) := by decide +kernel
theorem dX13_fine_44 : decode cX13_fine 44 = .ok (.goto 25, 3) := by decide +kernel
theorem dX13_fine_47 : decode cX13_fine 47 = .ok (.aload_n 0, 1) := by decide +kernel
theorem dX13_fine_48 : decode cX13_fine 48 = .ok (.aload_n 0, 1) := by decide +kernel
theorem dX13_fine_49 : decode cX13_fine 49 = .ok (.getfield 335, 3) := by decide +kernel
theorem dX13_fine_52 : decode cX13_fine 52 = .ok (.iload_n 1, 1) := by decide +kernel
theorem dX13_fine_53 : decode cX13_fine 53 = .ok (.aload_n 0, 1) := by decide +kernel
theorem dX13_fine_54 : decode cX13_fine 54 = .ok (.getfield 335, 3) := by decide +kernel
theorem dX13_fine_57 : decode cX13_fine 57 = .ok (.getfield 249, 3) := by decide +kernel
theorem dX13_fine_60 : decode cX13_fine 60 = .ok (.iload_n 2, 1) := by decide +kernel
theorem dX13_fine_61 : decode cX13_fine 61 = .ok (.iaload, 1) := by decide +kernel
theorem dX13_fine_62 : decode cX13_fine 62 = .ok (.iload_n 3, 1) := by decide +kernel
theorem dX13_fine_63 : decode cX13_fine 63 = .ok (.invokevirtual 388, 3) := by decide +kernel
theorem dX13_fine_66 : decode cX13_fine 66 = .ok (.invokevirtual 61, 3) := by decide +kernel
theorem dX13_fine_69 : decode cX13_fine 69 = .ok (.ireturn, 1) := by decide +kernel
theorem dX13_isVisit_0 : decode cX13_isVisit 0 = .ok (.aload_n 0, 1) := by decide +kernel
theorem dX13_isVisit_1 : decode cX13_isVisit 1 = .ok (.getfield 335, 3) := by decide +kernel
theorem dX13_isVisit_4 : decode cX13_isVisit 4 = .ok (.ifnull 22, 3) := by decide +kernel
theorem dX13_isVisit_7 : decode cX13_isVisit 7 = .ok (.iload_n 1, 1) := by decide +kernel
theorem dX13_isVisit_8 : decode cX13_isVisit 8 = .ok (.ifCond .lt 18, 3) := by decide +kernel
theorem dX13_isVisit_11 : decode cX13_isVisit 11 = .ok (.iload_n 1, 1) := by decide +kernel
theorem dX13_isVisit_12 : decode cX13_isVisit 12 = .ok (.aload_n 0, 1) := by decide +kernel
theorem dX13_isVisit_13 : decode cX13_isVisit 13 = .ok (.getfield 335, 3) := by decide +kernel
theorem dX13_isVisit_16 : decode cX13_isVisit 16 = .ok (.getfield 302, 3) := by decide +kernel
theorem dX13_isVisit_19 : decode cX13_isVisit 19 = .ok (.if_icmp .ge 7, 3) := by decide +kernel
theorem dX13_isVisit_22 : decode cX13_isVisit 22 = .ok (.iconst 1, 1) := by decide +kernel
theorem dX13_isVisit_23 : decode cX13_isVisit 23 = .ok (.goto 4, 3) := by decide +kernel
theorem dX13_isVisit_26 : decode cX13_isVisit 26 = .ok (.iconst 0, 1) := by decide +kernel
theorem dX13_isVisit_27 : decode cX13_isVisit 27 = .ok (.ireturn, 1) := by decide +kernel
theorem dX13_seenAt_0 : decode cX13_seenAt 0 = .ok (.aload_n 0, 1) := by decide +kernel
theorem dX13_seenAt_1 : decode cX13_seenAt 1 = .ok (.getfield 335, 3) := by decide +kernel
theorem dX13_seenAt_4 : decode cX13_seenAt 4 = .ok (.aload_n 0, 1) := by decide +kernel
theorem dX13_seenAt_5 : decode cX13_seenAt 5 = .ok (.getfield 335, 3) := by decide +kernel
theorem dX13_seenAt_8 : decode cX13_seenAt 8 = .ok (.getfield 307, 3) := by decide +kernel
theorem dX13_seenAt_11 : decode cX13_seenAt 11 = .ok (.iload_n 1, 1) := by decide +kernel
theorem dX13_seenAt_12 : decode cX13_seenAt 12 = .ok (.iaload, 1) := by decide +kernel
theorem dX13_seenAt_13 : decode cX13_seenAt 13 = .ok (.aload_n 0, 1) := by decide +kernel
theorem dX13_seenAt_14 : decode cX13_seenAt 14 = .ok (.getfield 335, 3) := by decide +kernel
theorem dX13_seenAt_17 : decode cX13_seenAt 17 = .ok (.getfield 310, 3) := by decide +kernel
theorem dX13_seenAt_20 : decode cX13_seenAt 20 = .ok (.iload_n 1, 1) := by decide +kernel
theorem dX13_seenAt_21 : decode cX13_seenAt 21 = .ok (.iaload, 1) := by decide +kernel
theorem dX13_seenAt_22 : decode cX13_seenAt 22 = .ok (.aload_n 0, 1) := by decide +kernel
theorem dX13_seenAt_23 : decode cX13_seenAt 23 = .ok (.getfield 335, 3) := by decide +kernel
theorem dX13_seenAt_26 : decode cX13_seenAt 26 = .ok (.getfield 313, 3) := by decide +kernel
theorem dX13_seenAt_29 : decode cX13_seenAt 29 = .ok (.iload_n 1, 1) := by decide +kernel
theorem dX13_seenAt_30 : decode cX13_seenAt 30 = .ok (.iaload, 1) := by decide +kernel
theorem dX13_seenAt_31 : decode cX13_seenAt 31 = .ok (.invokevirtual 374, 3) := by decide +kernel
theorem dX13_seenAt_34 : decode cX13_seenAt 34 = .ok (.ireturn, 1) := by decide +kernel
theorem dX13_fineAt_0 : decode cX13_fineAt 0 = .ok (.aload_n 0, 1) := by decide +kernel
theorem dX13_fineAt_1 : decode cX13_fineAt 1 = .ok (.getfield 335, 3) := by decide +kernel
theorem dX13_fineAt_4 : decode cX13_fineAt 4 = .ok (.aload_n 0, 1) := by decide +kernel
theorem dX13_fineAt_5 : decode cX13_fineAt 5 = .ok (.getfield 335, 3) := by decide +kernel
theorem dX13_fineAt_8 : decode cX13_fineAt 8 = .ok (.getfield 307, 3) := by decide +kernel
theorem dX13_fineAt_11 : decode cX13_fineAt 11 = .ok (.iload_n 1, 1) := by decide +kernel
theorem dX13_fineAt_12 : decode cX13_fineAt 12 = .ok (.iaload, 1) := by decide +kernel
theorem dX13_fineAt_13 : decode cX13_fineAt 13 = .ok (.aload_n 0, 1) := by decide +kernel
theorem dX13_fineAt_14 : decode cX13_fineAt 14 = .ok (.getfield 335, 3) := by decide +kernel
theorem dX13_fineAt_17 : decode cX13_fineAt 17 = .ok (.getfield 249, 3) := by decide +kernel
theorem dX13_fineAt_20 : decode cX13_fineAt 20 = .ok (.aload_n 0, 1) := by decide +kernel
theorem dX13_fineAt_21 : decode cX13_fineAt 21 = .ok (.getfield 335, 3) := by decide +kernel
theorem dX13_fineAt_24 : decode cX13_fineAt 24 = .ok (.getfield 310, 3) := by decide +kernel
theorem dX13_fineAt_27 : decode cX13_fineAt 27 = .ok (.iload_n 1, 1) := by decide +kernel
theorem dX13_fineAt_28 : decode cX13_fineAt 28 = .ok (.iaload, 1) := by decide +kernel
theorem dX13_fineAt_29 : decode cX13_fineAt 29 = .ok (.iaload, 1) := by decide +kernel
theorem dX13_fineAt_30 : decode cX13_fineAt 30 = .ok (.aload_n 0, 1) := by decide +kernel
theorem dX13_fineAt_31 : decode cX13_fineAt 31 = .ok (.getfield 335, 3) := by decide +kernel
theorem dX13_fineAt_34 : decode cX13_fineAt 34 = .ok (.getfield 313, 3) := by decide +kernel
theorem dX13_fineAt_37 : decode cX13_fineAt 37 = .ok (.iload_n 1, 1) := by decide +kernel
theorem dX13_fineAt_38 : decode cX13_fineAt 38 = .ok (.iaload, 1) := by decide +kernel
theorem dX13_fineAt_39 : decode cX13_fineAt 39 = .ok (.invokevirtual 388, 3) := by decide +kernel
theorem dX13_fineAt_42 : decode cX13_fineAt 42 = .ok (.ireturn, 1) := by decide +kernel
theorem dX13_visit_0 : decode cX13_visit 0 = .ok (.aload_n 0, 1) := by decide +kernel
theorem dX13_visit_1 : decode cX13_visit 1 = .ok (.iconst 0, 1) := by decide +kernel
theorem dX13_visit_2 : decode cX13_visit 2 = .ok (.putfield 51, 3) := by decide +kernel
theorem dX13_visit_5 : decode cX13_visit 5 = .ok (.iload_n 1, 1) := by decide +kernel
theorem dX13_visit_6 : decode cX13_visit 6 = .ok (.istore_n 3, 1) := by decide +kernel
theorem dX13_visit_7 : decode cX13_visit 7 = .ok (.aload_n 0, 1) := by decide +kernel
theorem dX13_visit_8 : decode cX13_visit 8 = .ok (.iload_n 3, 1) := by decide +kernel
theorem dX13_visit_9 : decode cX13_visit 9 = .ok (.invokevirtual 391, 3) := by decide +kernel
theorem dX13_visit_12 : decode cX13_visit 12 = .ok (.ifCond .eq 12, 3) := by decide +kernel
theorem dX13_visit_15 : decode cX13_visit 15 = .ok (.iload_n 2, 1) := by decide +kernel
theorem dX13_visit_16 : decode cX13_visit 16 = .ok (.iconst 0, 1) := by decide +kernel
theorem dX13_visit_17 : decode cX13_visit 17 = .ok (.iconst 4, 1) := by decide +kernel
theorem dX13_visit_18 : decode cX13_visit 18 = .ok (.invokestatic 129, 3) := by decide +kernel
theorem dX13_visit_21 : decode cX13_visit 21 = .ok (.ifCond .ne 9, 3) := by decide +kernel
theorem dX13_visit_24 : decode cX13_visit 24 = .ok (.aload_n 0, 1) := by decide +kernel
theorem dX13_visit_25 : decode cX13_visit 25 = .ok (.iconst 1, 1) := by decide +kernel
theorem dX13_visit_26 : decode cX13_visit 26 = .ok (.invokevirtual 57, 3) := by decide +kernel
theorem dX13_visit_29 : decode cX13_visit 29 = .ok (.ireturn, 1) := by decide +kernel
theorem dX13_visit_30 : decode cX13_visit 30 = .ok (.iload_n 2, 1) := by decide +kernel
theorem dX13_visit_31 : decode cX13_visit 31 = .ok (.tableswitch 81 0 3 #[29, 43, 57, 71], 29) := by decide +kernel
theorem dX13_visit_60 : decode cX13_visit 60 = .ok (.aload_n 0, 1) := by decide +kernel
theorem dX13_visit_61 : decode cX13_visit 61 = .ok (.aload_n 0, 1) := by decide +kernel
theorem dX13_visit_62 : decode cX13_visit 62 = .ok (.getfield 335, 3) := by decide +kernel
theorem dX13_visit_65 : decode cX13_visit 65 = .ok (.getfield 307, 3) := by decide +kernel
theorem dX13_visit_68 : decode cX13_visit 68 = .ok (.iload_n 3, 1) := by decide +kernel
theorem dX13_visit_69 : decode cX13_visit 69 = .ok (.iaload, 1) := by decide +kernel
theorem dX13_visit_70 : decode cX13_visit 70 = .ok (.invokevirtual 61, 3) := by decide +kernel
theorem dX13_visit_73 : decode cX13_visit 73 = .ok (.ireturn, 1) := by decide +kernel
theorem dX13_visit_74 : decode cX13_visit 74 = .ok (.aload_n 0, 1) := by decide +kernel
theorem dX13_visit_75 : decode cX13_visit 75 = .ok (.aload_n 0, 1) := by decide +kernel
theorem dX13_visit_76 : decode cX13_visit 76 = .ok (.getfield 335, 3) := by decide +kernel
theorem dX13_visit_79 : decode cX13_visit 79 = .ok (.getfield 310, 3) := by decide +kernel
theorem dX13_visit_82 : decode cX13_visit 82 = .ok (.iload_n 3, 1) := by decide +kernel
theorem dX13_visit_83 : decode cX13_visit 83 = .ok (.iaload, 1) := by decide +kernel
theorem dX13_visit_84 : decode cX13_visit 84 = .ok (.invokevirtual 61, 3) := by decide +kernel
theorem dX13_visit_87 : decode cX13_visit 87 = .ok (.ireturn, 1) := by decide +kernel
theorem dX13_visit_88 : decode cX13_visit 88 = .ok (.aload_n 0, 1) := by decide +kernel
theorem dX13_visit_89 : decode cX13_visit 89 = .ok (.aload_n 0, 1) := by decide +kernel
theorem dX13_visit_90 : decode cX13_visit 90 = .ok (.getfield 335, 3) := by decide +kernel
theorem dX13_visit_93 : decode cX13_visit 93 = .ok (.getfield 313, 3) := by decide +kernel
theorem dX13_visit_96 : decode cX13_visit 96 = .ok (.iload_n 3, 1) := by decide +kernel
theorem dX13_visit_97 : decode cX13_visit 97 = .ok (.iaload, 1) := by decide +kernel
theorem dX13_visit_98 : decode cX13_visit 98 = .ok (.invokevirtual 61, 3) := by decide +kernel
theorem dX13_visit_101 : decode cX13_visit 101 = .ok (.ireturn, 1) := by decide +kernel
theorem dX13_visit_102 : decode cX13_visit 102 = .ok (.aload_n 0, 1) := by decide +kernel
theorem dX13_visit_103 : decode cX13_visit 103 = .ok (.aload_n 0, 1) := by decide +kernel
theorem dX13_visit_104 : decode cX13_visit 104 = .ok (.iload_n 3, 1) := by decide +kernel
theorem dX13_visit_105 : decode cX13_visit 105 = .ok (.invokevirtual 394, 3) := by decide +kernel
theorem dX13_visit_108 : decode cX13_visit 108 = .ok (.invokevirtual 61, 3) := by decide +kernel
theorem dX13_visit_111 : decode cX13_visit 111 = .ok (.ireturn, 1) := by decide +kernel
theorem dX13_visit_112 : decode cX13_visit 112 = .ok (.aload_n 0, 1) := by decide +kernel
theorem dX13_visit_113 : decode cX13_visit 113 = .ok (.aload_n 0, 1) := by decide +kernel
theorem dX13_visit_114 : decode cX13_visit 114 = .ok (.iload_n 3, 1) := by decide +kernel
theorem dX13_visit_115 : decode cX13_visit 115 = .ok (.invokevirtual 397, 3) := by decide +kernel
theorem dX13_visit_118 : decode cX13_visit 118 = .ok (.invokevirtual 61, 3) := by decide +kernel
theorem dX13_visit_121 : decode cX13_visit 121 = .ok (.ireturn, 1) := by decide +kernel
theorem dX13_fines_0 : decode cX13_fines 0 = .ok (.aload_n 0, 1) := by decide +kernel
theorem dX13_fines_1 : decode cX13_fines 1 = .ok (.iconst 0, 1) := by decide +kernel
theorem dX13_fines_2 : decode cX13_fines 2 = .ok (.putfield 51, 3) := by decide +kernel
theorem dX13_fines_5 : decode cX13_fines 5 = .ok (.aload_n 0, 1) := by decide +kernel
theorem dX13_fines_6 : decode cX13_fines 6 = .ok (.iload_n 1, 1) := by decide +kernel
theorem dX13_fines_7 : decode cX13_fines 7 = .ok (.invokevirtual 355, 3) := by decide +kernel
theorem dX13_fines_10 : decode cX13_fines 10 = .ok (.ifCond .ne 9, 3) := by decide +kernel
theorem dX13_fines_13 : decode cX13_fines 13 = .ok (.aload_n 0, 1) := by decide +kernel
theorem dX13_fines_14 : decode cX13_fines 14 = .ok (.iconst 1, 1) := by decide +kernel
theorem dX13_fines_15 : decode cX13_fines 15 = .ok (.invokevirtual 57, 3) := by decide +kernel
theorem dX13_fines_18 : decode cX13_fines 18 = .ok (.ireturn, 1) := by decide +kernel
theorem dX13_fines_19 : decode cX13_fines 19 = .ok (.iconst 0, 1) := by decide +kernel
theorem dX13_fines_20 : decode cX13_fines 20 = .ok (.istore_n 2, 1) := by decide +kernel
theorem dX13_fines_21 : decode cX13_fines 21 = .ok (.iconst 0, 1) := by decide +kernel
theorem dX13_fines_22 : decode cX13_fines 22 = .ok (.istore_n 3, 1) := by decide +kernel
theorem dX13_fines_23 : decode cX13_fines 23 = .ok (.iload_n 3, 1) := by decide +kernel
theorem dX13_fines_24 : decode cX13_fines 24 = .ok (.aload_n 0, 1) := by decide +kernel
theorem dX13_fines_25 : decode cX13_fines 25 = .ok (.getfield 335, 3) := by decide +kernel
theorem dX13_fines_28 : decode cX13_fines 28 = .ok (.getfield 302, 3) := by decide +kernel
theorem dX13_fines_31 : decode cX13_fines 31 = .ok (.if_icmp .ge 34, 3) := by decide +kernel
theorem dX13_fines_34 : decode cX13_fines 34 = .ok (.iload_n 2, 1) := by decide +kernel
theorem dX13_fines_35 : decode cX13_fines 35 = .ok (.aload_n 0, 1) := by decide +kernel
theorem dX13_fines_36 : decode cX13_fines 36 = .ok (.getfield 335, 3) := by decide +kernel
theorem dX13_fines_39 : decode cX13_fines 39 = .ok (.getfield 307, 3) := by decide +kernel
theorem dX13_fines_42 : decode cX13_fines 42 = .ok (.iload_n 3, 1) := by decide +kernel
theorem dX13_fines_43 : decode cX13_fines 43 = .ok (.iaload, 1) := by decide +kernel
theorem dX13_fines_44 : decode cX13_fines 44 = .ok (.iload_n 1, 1) := by decide +kernel
theorem dX13_fines_45 : decode cX13_fines 45 = .ok (.if_icmp .ne 11, 3) := by decide +kernel
theorem dX13_fines_48 : decode cX13_fines 48 = .ok (.aload_n 0, 1) := by decide +kernel
theorem dX13_fines_49 : decode cX13_fines 49 = .ok (.iload_n 3, 1) := by decide +kernel
theorem dX13_fines_50 : decode cX13_fines 50 = .ok (.invokevirtual 397, 3) := by decide +kernel
theorem dX13_fines_53 : decode cX13_fines 53 = .ok (.goto 4, 3) := by decide +kernel
theorem dX13_fines_56 : decode cX13_fines 56 = .ok (.iconst 0, 1) := by decide +kernel
theorem dX13_fines_57 : decode cX13_fines 57 = .ok (.iadd, 1) := by decide +kernel
theorem dX13_fines_58 : decode cX13_fines 58 = .ok (.istore_n 2, 1) := by decide +kernel
theorem dX13_fines_59 : decode cX13_fines 59 = .ok (.iinc 3 1, 3) := by decide +kernel
theorem dX13_fines_62 : decode cX13_fines 62 = .ok (.goto (-39), 3) := by decide +kernel
theorem dX13_fines_65 : decode cX13_fines 65 = .ok (.aload_n 0, 1) := by decide +kernel
theorem dX13_fines_66 : decode cX13_fines 66 = .ok (.iload_n 2, 1) := by decide +kernel
theorem dX13_fines_67 : decode cX13_fines 67 = .ok (.invokevirtual 61, 3) := by decide +kernel
theorem dX13_fines_70 : decode cX13_fines 70 = .ok (.ireturn, 1) := by decide +kernel
theorem dX13_bares_0 : decode cX13_bares 0 = .ok (.aload_n 0, 1) := by decide +kernel
theorem dX13_bares_1 : decode cX13_bares 1 = .ok (.iconst 0, 1) := by decide +kernel
theorem dX13_bares_2 : decode cX13_bares 2 = .ok (.putfield 51, 3) := by decide +kernel
theorem dX13_bares_5 : decode cX13_bares 5 = .ok (.aload_n 0, 1) := by decide +kernel
theorem dX13_bares_6 : decode cX13_bares 6 = .ok (.iload_n 1, 1) := by decide +kernel
theorem dX13_bares_7 : decode cX13_bares 7 = .ok (.invokevirtual 355, 3) := by decide +kernel
theorem dX13_bares_10 : decode cX13_bares 10 = .ok (.ifCond .ne 9, 3) := by decide +kernel
theorem dX13_bares_13 : decode cX13_bares 13 = .ok (.aload_n 0, 1) := by decide +kernel
theorem dX13_bares_14 : decode cX13_bares 14 = .ok (.iconst 1, 1) := by decide +kernel
theorem dX13_bares_15 : decode cX13_bares 15 = .ok (.invokevirtual 57, 3) := by decide +kernel
theorem dX13_bares_18 : decode cX13_bares 18 = .ok (.ireturn, 1) := by decide +kernel
theorem dX13_bares_19 : decode cX13_bares 19 = .ok (.iconst 0, 1) := by decide +kernel
theorem dX13_bares_20 : decode cX13_bares 20 = .ok (.istore_n 2, 1) := by decide +kernel
theorem dX13_bares_21 : decode cX13_bares 21 = .ok (.iconst 0, 1) := by decide +kernel
theorem dX13_bares_22 : decode cX13_bares 22 = .ok (.istore_n 3, 1) := by decide +kernel
theorem dX13_bares_23 : decode cX13_bares 23 = .ok (.iload_n 3, 1) := by decide +kernel
theorem dX13_bares_24 : decode cX13_bares 24 = .ok (.aload_n 0, 1) := by decide +kernel
theorem dX13_bares_25 : decode cX13_bares 25 = .ok (.getfield 335, 3) := by decide +kernel
theorem dX13_bares_28 : decode cX13_bares 28 = .ok (.getfield 302, 3) := by decide +kernel
theorem dX13_bares_31 : decode cX13_bares 31 = .ok (.if_icmp .ge 42, 3) := by decide +kernel
theorem dX13_bares_34 : decode cX13_bares 34 = .ok (.iload_n 2, 1) := by decide +kernel
theorem dX13_bares_35 : decode cX13_bares 35 = .ok (.aload_n 0, 1) := by decide +kernel
theorem dX13_bares_36 : decode cX13_bares 36 = .ok (.getfield 335, 3) := by decide +kernel
theorem dX13_bares_39 : decode cX13_bares 39 = .ok (.getfield 307, 3) := by decide +kernel
theorem dX13_bares_42 : decode cX13_bares 42 = .ok (.iload_n 3, 1) := by decide +kernel
theorem dX13_bares_43 : decode cX13_bares 43 = .ok (.iaload, 1) := by decide +kernel
theorem dX13_bares_44 : decode cX13_bares 44 = .ok (.iload_n 1, 1) := by decide +kernel
theorem dX13_bares_45 : decode cX13_bares 45 = .ok (.if_icmp .ne 19, 3) := by decide +kernel
theorem dX13_bares_48 : decode cX13_bares 48 = .ok (.aload_n 0, 1) := by decide +kernel
theorem dX13_bares_49 : decode cX13_bares 49 = .ok (.iload_n 3, 1) := by decide +kernel
theorem dX13_bares_50 : decode cX13_bares 50 = .ok (.invokevirtual 394, 3) := by decide +kernel
theorem dX13_bares_53 : decode cX13_bares 53 = .ok (.iconst 2, 1) := by decide +kernel
theorem dX13_bares_54 : decode cX13_bares 54 = .ok (.ishr, 1) := by decide +kernel
theorem dX13_bares_55 : decode cX13_bares 55 = .ok (.ifCond .eq 9, 3) := by decide +kernel
theorem dX13_bares_58 : decode cX13_bares 58 = .ok (.iconst 1, 1) := by decide +kernel
theorem dX13_bares_59 : decode cX13_bares 59 = .ok (.iload_n 3, 1) := by decide +kernel
theorem dX13_bares_60 : decode cX13_bares 60 = .ok (.ishl, 1) := by decide +kernel
theorem dX13_bares_61 : decode cX13_bares 61 = .ok (.goto 4, 3) := by decide +kernel
theorem dX13_bares_64 : decode cX13_bares 64 = .ok (.iconst 0, 1) := by decide +kernel
theorem dX13_bares_65 : decode cX13_bares 65 = .ok (.ior, 1) := by decide +kernel
theorem dX13_bares_66 : decode cX13_bares 66 = .ok (.istore_n 2, 1) := by decide +kernel
theorem dX13_bares_67 : decode cX13_bares 67 = .ok (.iinc 3 1, 3) := by decide +kernel
theorem dX13_bares_70 : decode cX13_bares 70 = .ok (.goto (-47), 3) := by decide +kernel
theorem dX13_bares_73 : decode cX13_bares 73 = .ok (.aload_n 0, 1) := by decide +kernel
theorem dX13_bares_74 : decode cX13_bares 74 = .ok (.iload_n 2, 1) := by decide +kernel
theorem dX13_bares_75 : decode cX13_bares 75 = .ok (.invokevirtual 61, 3) := by decide +kernel
theorem dX13_bares_78 : decode cX13_bares 78 = .ok (.ireturn, 1) := by decide +kernel
theorem dX13_met_0 : decode cX13_met 0 = .ok (.aload_n 0, 1) := by decide +kernel
theorem dX13_met_1 : decode cX13_met 1 = .ok (.iconst 0, 1) := by decide +kernel
theorem dX13_met_2 : decode cX13_met 2 = .ok (.putfield 51, 3) := by decide +kernel
theorem dX13_met_5 : decode cX13_met 5 = .ok (.iload_n 1, 1) := by decide +kernel
theorem dX13_met_6 : decode cX13_met 6 = .ok (.istore_n 2, 1) := by decide +kernel
theorem dX13_met_7 : decode cX13_met 7 = .ok (.aload_n 0, 1) := by decide +kernel
theorem dX13_met_8 : decode cX13_met 8 = .ok (.iload_n 2, 1) := by decide +kernel
theorem dX13_met_9 : decode cX13_met 9 = .ok (.invokevirtual 391, 3) := by decide +kernel
theorem dX13_met_12 : decode cX13_met 12 = .ok (.ifCond .ne 9, 3) := by decide +kernel
theorem dX13_met_15 : decode cX13_met 15 = .ok (.aload_n 0, 1) := by decide +kernel
theorem dX13_met_16 : decode cX13_met 16 = .ok (.iconst 1, 1) := by decide +kernel
theorem dX13_met_17 : decode cX13_met 17 = .ok (.invokevirtual 57, 3) := by decide +kernel
theorem dX13_met_20 : decode cX13_met 20 = .ok (.ireturn, 1) := by decide +kernel
theorem dX13_met_21 : decode cX13_met 21 = .ok (.iconst 0, 1) := by decide +kernel
theorem dX13_met_22 : decode cX13_met 22 = .ok (.istore_n 3, 1) := by decide +kernel
theorem dX13_met_23 : decode cX13_met 23 = .ok (.iconst 0, 1) := by decide +kernel
theorem dX13_met_24 : decode cX13_met 24 = .ok (.istore 4, 2) := by decide +kernel
theorem dX13_met_26 : decode cX13_met 26 = .ok (.iload 4, 2) := by decide +kernel
theorem dX13_met_28 : decode cX13_met 28 = .ok (.aload_n 0, 1) := by decide +kernel
theorem dX13_met_29 : decode cX13_met 29 = .ok (.getfield 335, 3) := by decide +kernel
theorem dX13_met_32 : decode cX13_met 32 = .ok (.getfield 302, 3) := by decide +kernel
theorem dX13_met_35 : decode cX13_met 35 = .ok (.if_icmp .ge 72, 3) := by decide +kernel
theorem dX13_met_38 : decode cX13_met 38 = .ok (.iload_n 3, 1) := by decide +kernel
theorem dX13_met_39 : decode cX13_met 39 = .ok (.aload_n 0, 1) := by decide +kernel
theorem dX13_met_40 : decode cX13_met 40 = .ok (.getfield 335, 3) := by decide +kernel
theorem dX13_met_43 : decode cX13_met 43 = .ok (.getfield 310, 3) := by decide +kernel
theorem dX13_met_46 : decode cX13_met 46 = .ok (.iload 4, 2) := by decide +kernel
theorem dX13_met_48 : decode cX13_met 48 = .ok (.iaload, 1) := by decide +kernel
theorem dX13_met_49 : decode cX13_met 49 = .ok (.aload_n 0, 1) := by decide +kernel
theorem dX13_met_50 : decode cX13_met 50 = .ok (.getfield 335, 3) := by decide +kernel
theorem dX13_met_53 : decode cX13_met 53 = .ok (.getfield 310, 3) := by decide +kernel
theorem dX13_met_56 : decode cX13_met 56 = .ok (.iload_n 2, 1) := by decide +kernel
theorem dX13_met_57 : decode cX13_met 57 = .ok (.iaload, 1) := by decide +kernel
theorem dX13_met_58 : decode cX13_met 58 = .ok (.if_icmp .ne 40, 3) := by decide +kernel
theorem dX13_met_61 : decode cX13_met 61 = .ok (.aload_n 0, 1) := by decide +kernel
theorem dX13_met_62 : decode cX13_met 62 = .ok (.getfield 335, 3) := by decide +kernel
theorem dX13_met_65 : decode cX13_met 65 = .ok (.getfield 313, 3) := by decide +kernel
theorem dX13_met_68 : decode cX13_met 68 = .ok (.iload 4, 2) := by decide +kernel
theorem dX13_met_70 : decode cX13_met 70 = .ok (.iaload, 1) := by decide +kernel
theorem dX13_met_71 : decode cX13_met 71 = .ok (.aload_n 0, 1) := by decide +kernel
theorem dX13_met_72 : decode cX13_met 72 = .ok (.getfield 335, 3) := by decide +kernel
theorem dX13_met_75 : decode cX13_met 75 = .ok (.getfield 313, 3) := by decide +kernel
theorem dX13_met_78 : decode cX13_met 78 = .ok (.iload_n 2, 1) := by decide +kernel
theorem dX13_met_79 : decode cX13_met 79 = .ok (.iaload, 1) := by decide +kernel
theorem dX13_met_80 : decode cX13_met 80 = .ok (.if_icmp .ne 18, 3) := by decide +kernel
theorem dX13_met_83 : decode cX13_met 83 = .ok (.iconst 1, 1) := by decide +kernel
theorem dX13_met_84 : decode cX13_met 84 = .ok (.aload_n 0, 1) := by decide +kernel
theorem dX13_met_85 : decode cX13_met 85 = .ok (.getfield 335, 3) := by decide +kernel
theorem dX13_met_88 : decode cX13_met 88 = .ok (.getfield 307, 3) := by decide +kernel
theorem dX13_met_91 : decode cX13_met 91 = .ok (.iload 4, 2) := by decide +kernel
theorem dX13_met_93 : decode cX13_met 93 = .ok (.iaload, 1) := by decide +kernel
theorem dX13_met_94 : decode cX13_met 94 = .ok (.ishl, 1) := by decide +kernel
theorem dX13_met_95 : decode cX13_met 95 = .ok (.goto 4, 3) := by decide +kernel
theorem dX13_met_98 : decode cX13_met 98 = .ok (.iconst 0, 1) := by decide +kernel
theorem dX13_met_99 : decode cX13_met 99 = .ok (.ior, 1) := by decide +kernel
theorem dX13_met_100 : decode cX13_met 100 = .ok (.istore_n 3, 1) := by decide +kernel
theorem dX13_met_101 : decode cX13_met 101 = .ok (.iinc 4 1, 3) := by decide +kernel
theorem dX13_met_104 : decode cX13_met 104 = .ok (.goto (-78), 3) := by decide +kernel
theorem dX13_met_107 : decode cX13_met 107 = .ok (.aload_n 0, 1) := by decide +kernel
theorem dX13_met_108 : decode cX13_met 108 = .ok (.iload_n 3, 1) := by decide +kernel
theorem dX13_met_109 : decode cX13_met 109 = .ok (.invokevirtual 61, 3) := by decide +kernel
theorem dX13_met_112 : decode cX13_met 112 = .ok (.ireturn, 1) := by decide +kernel
theorem dX13_busiest_0 : decode cX13_busiest 0 = .ok (.aload_n 0, 1) := by decide +kernel
theorem dX13_busiest_1 : decode cX13_busiest 1 = .ok (.iconst 0, 1) := by decide +kernel
theorem dX13_busiest_2 : decode cX13_busiest 2 = .ok (.putfield 51, 3) := by decide +kernel
theorem dX13_busiest_5 : decode cX13_busiest 5 = .ok (.aload_n 0, 1) := by decide +kernel
theorem dX13_busiest_6 : decode cX13_busiest 6 = .ok (.getfield 335, 3) := by decide +kernel
theorem dX13_busiest_9 : decode cX13_busiest 9 = .ok (.ifnonnull 9, 3) := by decide +kernel
theorem dX13_busiest_12 : decode cX13_busiest 12 = .ok (.aload_n 0, 1) := by decide +kernel
theorem dX13_busiest_13 : decode cX13_busiest 13 = .ok (.iconst 1, 1) := by decide +kernel
theorem dX13_busiest_14 : decode cX13_busiest 14 = .ok (.invokevirtual 57, 3) := by decide +kernel
theorem dX13_busiest_17 : decode cX13_busiest 17 = .ok (.ireturn, 1) := by decide +kernel
theorem dX13_busiest_18 : decode cX13_busiest 18 = .ok (.bipush (-2), 2) := by decide +kernel
theorem dX13_busiest_20 : decode cX13_busiest 20 = .ok (.istore_n 1, 1) := by decide +kernel
theorem dX13_busiest_21 : decode cX13_busiest 21 = .ok (.iconst 0, 1) := by decide +kernel
theorem dX13_busiest_22 : decode cX13_busiest 22 = .ok (.istore_n 2, 1) := by decide +kernel
theorem dX13_busiest_23 : decode cX13_busiest 23 = .ok (.iconst 0, 1) := by decide +kernel
theorem dX13_busiest_24 : decode cX13_busiest 24 = .ok (.istore_n 3, 1) := by decide +kernel
theorem dX13_busiest_25 : decode cX13_busiest 25 = .ok (.iload_n 3, 1) := by decide +kernel
theorem dX13_busiest_26 : decode cX13_busiest 26 = .ok (.bipush 24, 2) := by decide +kernel
theorem dX13_busiest_28 : decode cX13_busiest 28 = .ok (.if_icmp .ge 71, 3) := by decide +kernel
theorem dX13_busiest_31 : decode cX13_busiest 31 = .ok (.iconst 0, 1) := by decide +kernel
theorem dX13_busiest_32 : decode cX13_busiest 32 = .ok (.istore 4, 2) := by decide +kernel
theorem dX13_busiest_34 : decode cX13_busiest 34 = .ok (.iconst 0, 1) := by decide +kernel
theorem dX13_busiest_35 : decode cX13_busiest 35 = .ok (.istore 5, 2) := by decide +kernel
theorem dX13_busiest_37 : decode cX13_busiest 37 = .ok (.iload 5, 2) := by decide +kernel
theorem dX13_busiest_39 : decode cX13_busiest 39 = .ok (.aload_n 0, 1) := by decide +kernel
theorem dX13_busiest_40 : decode cX13_busiest 40 = .ok (.getfield 335, 3) := by decide +kernel
theorem dX13_busiest_43 : decode cX13_busiest 43 = .ok (.getfield 302, 3) := by decide +kernel
theorem dX13_busiest_46 : decode cX13_busiest 46 = .ok (.if_icmp .ge 33, 3) := by decide +kernel
theorem dX13_busiest_49 : decode cX13_busiest 49 = .ok (.iload 4, 2) := by decide +kernel
theorem dX13_busiest_51 : decode cX13_busiest 51 = .ok (.aload_n 0, 1) := by decide +kernel
theorem dX13_busiest_52 : decode cX13_busiest 52 = .ok (.getfield 335, 3) := by decide +kernel
theorem dX13_busiest_55 : decode cX13_busiest 55 = .ok (.getfield 313, 3) := by decide +kernel
theorem dX13_busiest_58 : decode cX13_busiest 58 = .ok (.iload 5, 2) := by decide +kernel
theorem dX13_busiest_60 : decode cX13_busiest 60 = .ok (.iaload, 1) := by decide +kernel
theorem dX13_busiest_61 : decode cX13_busiest 61 = .ok (.iload_n 3, 1) := by decide +kernel
theorem dX13_busiest_62 : decode cX13_busiest 62 = .ok (.if_icmp .ne 7, 3) := by decide +kernel
theorem dX13_busiest_65 : decode cX13_busiest 65 = .ok (.iconst 1, 1) := by decide +kernel
theorem dX13_busiest_66 : decode cX13_busiest 66 = .ok (.goto 4, 3) := by decide +kernel
theorem dX13_busiest_69 : decode cX13_busiest 69 = .ok (.iconst 0, 1) := by decide +kernel
theorem dX13_busiest_70 : decode cX13_busiest 70 = .ok (.iadd, 1) := by decide +kernel
theorem dX13_busiest_71 : decode cX13_busiest 71 = .ok (.istore 4, 2) := by decide +kernel
theorem dX13_busiest_73 : decode cX13_busiest 73 = .ok (.iinc 5 1, 3) := by decide +kernel
theorem dX13_busiest_76 : decode cX13_busiest 76 = .ok (.goto (-39), 3) := by decide +kernel
theorem dX13_busiest_79 : decode cX13_busiest 79 = .ok (.iload 4, 2) := by decide +kernel
theorem dX13_busiest_81 : decode cX13_busiest 81 = .ok (.iload_n 2, 1) := by decide +kernel
theorem dX13_busiest_82 : decode cX13_busiest 82 = .ok (.if_icmp .gt 6, 3) := by decide +kernel
theorem dX13_busiest_85 : decode cX13_busiest 85 = .ok (.goto 8, 3) := by decide +kernel
theorem dX13_busiest_88 : decode cX13_busiest 88 = .ok (.iload 4, 2) := by decide +kernel
theorem dX13_busiest_90 : decode cX13_busiest 90 = .ok (.istore_n 2, 1) := by decide +kernel
theorem dX13_busiest_91 : decode cX13_busiest 91 = .ok (.iload_n 3, 1) := by decide +kernel
theorem dX13_busiest_92 : decode cX13_busiest 92 = .ok (.istore_n 1, 1) := by decide +kernel
theorem dX13_busiest_93 : decode cX13_busiest 93 = .ok (.iinc 3 1, 3) := by decide +kernel
theorem dX13_busiest_96 : decode cX13_busiest 96 = .ok (.goto (-71), 3) := by decide +kernel
theorem dX13_busiest_99 : decode cX13_busiest 99 = .ok (.aload_n 0, 1) := by decide +kernel
theorem dX13_busiest_100 : decode cX13_busiest 100 = .ok (.iload_n 1, 1) := by decide +kernel
theorem dX13_busiest_101 : decode cX13_busiest 101 = .ok (.invokevirtual 61, 3) := by decide +kernel
theorem dX13_busiest_104 : decode cX13_busiest 104 = .ok (.ireturn, 1) := by decide +kernel
theorem dX13_apart_0 : decode cX13_apart 0 = .ok (.aload_n 0, 1) := by decide +kernel
theorem dX13_apart_1 : decode cX13_apart 1 = .ok (.iconst 0, 1) := by decide +kernel
theorem dX13_apart_2 : decode cX13_apart 2 = .ok (.putfield 51, 3) := by decide +kernel
theorem dX13_apart_5 : decode cX13_apart 5 = .ok (.aload_n 0, 1) := by decide +kernel
theorem dX13_apart_6 : decode cX13_apart 6 = .ok (.iload_n 1, 1) := by decide +kernel
theorem dX13_apart_7 : decode cX13_apart 7 = .ok (.invokevirtual 355, 3) := by decide +kernel
theorem dX13_apart_10 : decode cX13_apart 10 = .ok (.ifCond .eq 16, 3) := by decide +kernel
theorem dX13_apart_13 : decode cX13_apart 13 = .ok (.aload_n 0, 1) := by decide +kernel
theorem dX13_apart_14 : decode cX13_apart 14 = .ok (.iload_n 2, 1) := by decide +kernel
theorem dX13_apart_15 : decode cX13_apart 15 = .ok (.invokevirtual 355, 3) := by decide +kernel
theorem dX13_apart_18 : decode cX13_apart 18 = .ok (.ifCond .eq 8, 3) := by decide +kernel
theorem dX13_apart_21 : decode cX13_apart 21 = .ok (.iload_n 1, 1) := by decide +kernel
theorem dX13_apart_22 : decode cX13_apart 22 = .ok (.iload_n 2, 1) := by decide +kernel
theorem dX13_apart_23 : decode cX13_apart 23 = .ok (.if_icmp .ne 9, 3) := by decide +kernel
theorem dX13_apart_26 : decode cX13_apart 26 = .ok (.aload_n 0, 1) := by decide +kernel
theorem dX13_apart_27 : decode cX13_apart 27 = .ok (.iconst 1, 1) := by decide +kernel
theorem dX13_apart_28 : decode cX13_apart 28 = .ok (.invokevirtual 57, 3) := by decide +kernel
theorem dX13_apart_31 : decode cX13_apart 31 = .ok (.ireturn, 1) := by decide +kernel
theorem dX13_apart_32 : decode cX13_apart 32 = .ok (.iconst 0, 1) := by decide +kernel
theorem dX13_apart_33 : decode cX13_apart 33 = .ok (.istore_n 3, 1) := by decide +kernel
theorem dX13_apart_34 : decode cX13_apart 34 = .ok (.iconst 0, 1) := by decide +kernel
theorem dX13_apart_35 : decode cX13_apart 35 = .ok (.istore 4, 2) := by decide +kernel
theorem dX13_apart_37 : decode cX13_apart 37 = .ok (.iload 4, 2) := by decide +kernel
theorem dX13_apart_39 : decode cX13_apart 39 = .ok (.aload_n 0, 1) := by decide +kernel
theorem dX13_apart_40 : decode cX13_apart 40 = .ok (.getfield 335, 3) := by decide +kernel
theorem dX13_apart_43 : decode cX13_apart 43 = .ok (.getfield 196, 3) := by decide +kernel
theorem dX13_apart_46 : decode cX13_apart 46 = .ok (.if_icmp .ge 41, 3) := by decide +kernel
theorem dX13_apart_49 : decode cX13_apart 49 = .ok (.iload_n 3, 1) := by decide +kernel
theorem dX13_apart_50 : decode cX13_apart 50 = .ok (.aload_n 0, 1) := by decide +kernel
theorem dX13_apart_51 : decode cX13_apart 51 = .ok (.getfield 335, 3) := by decide +kernel
theorem dX13_apart_54 : decode cX13_apart 54 = .ok (.iload_n 1, 1) := by decide +kernel
theorem dX13_apart_55 : decode cX13_apart 55 = .ok (.iload_n 2, 1) := by decide +kernel
theorem dX13_apart_56 : decode cX13_apart 56 = .ok (.iload 4, 2) := by decide +kernel
theorem dX13_apart_58 : decode cX13_apart 58 = .ok (.aload_n 0, 1) := by decide +kernel
theorem dX13_apart_59 : decode cX13_apart 59 = .ok (.getfield 335, 3) := by decide +kernel
theorem dX13_apart_62 : decode cX13_apart 62 = .ok (.getfield 232, 3) := by decide +kernel
theorem dX13_apart_65 : decode cX13_apart 65 = .ok (.invokevirtual 378, 3) := by decide +kernel
theorem dX13_apart_68 : decode cX13_apart 68 = .ok (.ifCond .eq 7, 3) := by decide +kernel
theorem dX13_apart_71 : decode cX13_apart 71 = .ok (.iconst 0, 1) := by decide +kernel
theorem dX13_apart_72 : decode cX13_apart 72 = .ok (.goto 7, 3) := by decide +kernel
theorem dX13_apart_75 : decode cX13_apart 75 = .ok (.iconst 1, 1) := by decide +kernel
theorem dX13_apart_76 : decode cX13_apart 76 = .ok (.iload 4, 2) := by decide +kernel
theorem dX13_apart_78 : decode cX13_apart 78 = .ok (.ishl, 1) := by decide +kernel
theorem dX13_apart_79 : decode cX13_apart 79 = .ok (.ior, 1) := by decide +kernel
theorem dX13_apart_80 : decode cX13_apart 80 = .ok (.istore_n 3, 1) := by decide +kernel
theorem dX13_apart_81 : decode cX13_apart 81 = .ok (.iinc 4 1, 3) := by decide +kernel
theorem dX13_apart_84 : decode cX13_apart 84 = .ok (.goto (-47), 3) := by decide +kernel
theorem dX13_apart_87 : decode cX13_apart 87 = .ok (.aload_n 0, 1) := by decide +kernel
theorem dX13_apart_88 : decode cX13_apart 88 = .ok (.iload_n 3, 1) := by decide +kernel
theorem dX13_apart_89 : decode cX13_apart 89 = .ok (.invokevirtual 61, 3) := by decide +kernel
theorem dX13_apart_92 : decode cX13_apart 92 = .ok (.ireturn, 1) := by decide +kernel
theorem dX13_isTelling_0 : decode cX13_isTelling 0 = .ok (.iconst 0, 1) := by decide +kernel
theorem dX13_isTelling_1 : decode cX13_isTelling 1 = .ok (.istore_n 2, 1) := by decide +kernel
theorem dX13_isTelling_2 : decode cX13_isTelling 2 = .ok (.iload_n 2, 1) := by decide +kernel
theorem dX13_isTelling_3 : decode cX13_isTelling 3 = .ok (.aload_n 0, 1) := by decide +kernel
theorem dX13_isTelling_4 : decode cX13_isTelling 4 = .ok (.getfield 335, 3) := by decide +kernel
theorem dX13_isTelling_7 : decode cX13_isTelling 7 = .ok (.getfield 199, 3) := by decide +kernel
theorem dX13_isTelling_10 : decode cX13_isTelling 10 = .ok (.if_icmp .ge 99, 3) := by decide +kernel
theorem dX13_isTelling_13 : decode cX13_isTelling 13 = .ok (.iconst 0, 1) := by decide +kernel
theorem dX13_isTelling_14 : decode cX13_isTelling 14 = .ok (.istore_n 3, 1) := by decide +kernel
theorem dX13_isTelling_15 : decode cX13_isTelling 15 = .ok (.iload_n 3, 1) := by decide +kernel
theorem dX13_isTelling_16 : decode cX13_isTelling 16 = .ok (.iload_n 2, 1) := by decide +kernel
theorem dX13_isTelling_17 : decode cX13_isTelling 17 = .ok (.if_icmp .ge 86, 3) := by decide +kernel
theorem dX13_isTelling_20 : decode cX13_isTelling 20 = .ok (.iconst 1, 1) := by decide +kernel
theorem dX13_isTelling_21 : decode cX13_isTelling 21 = .ok (.istore 4, 2) := by decide +kernel
theorem dX13_isTelling_23 : decode cX13_isTelling 23 = .ok (.iconst 0, 1) := by decide +kernel
theorem dX13_isTelling_24 : decode cX13_isTelling 24 = .ok (.istore 5, 2) := by decide +kernel
theorem dX13_isTelling_26 : decode cX13_isTelling 26 = .ok (.iload 5, 2) := by decide +kernel
theorem dX13_isTelling_28 : decode cX13_isTelling 28 = .ok (.iconst 3, 1) := by decide +kernel
theorem dX13_isTelling_29 : decode cX13_isTelling 29 = .ok (.if_icmp .ge 61, 3) := by decide +kernel
theorem dX13_isTelling_32 : decode cX13_isTelling 32 = .ok (.iload 4, 2) := by decide +kernel
theorem dX13_isTelling_34 : decode cX13_isTelling 34 = .ok (.ifCond .eq 47, 3) := by decide +kernel
theorem dX13_isTelling_37 : decode cX13_isTelling 37 = .ok (.iload_n 1, 1) := by decide +kernel
theorem dX13_isTelling_38 : decode cX13_isTelling 38 = .ok (.iload 5, 2) := by decide +kernel
theorem dX13_isTelling_40 : decode cX13_isTelling 40 = .ok (.invokestatic 400, 3) := by decide +kernel
theorem dX13_isTelling_43 : decode cX13_isTelling 43 = .ok (.ifCond .eq 34, 3) := by decide +kernel
theorem dX13_isTelling_46 : decode cX13_isTelling 46 = .ok (.aload_n 0, 1) := by decide +kernel
theorem dX13_isTelling_47 : decode cX13_isTelling 47 = .ok (.getfield 335, 3) := by decide +kernel
theorem dX13_isTelling_50 : decode cX13_isTelling 50 = .ok (.getfield 285, 3) := by decide +kernel
theorem dX13_isTelling_53 : decode cX13_isTelling 53 = .ok (.iconst 5, 1) := by decide +kernel
theorem dX13_isTelling_54 : decode cX13_isTelling 54 = .ok (.iload_n 2, 1) := by decide +kernel
theorem dX13_isTelling_55 : decode cX13_isTelling 55 = .ok (.imul, 1) := by decide +kernel
theorem dX13_isTelling_56 : decode cX13_isTelling 56 = .ok (.iload 5, 2) := by decide +kernel
theorem dX13_isTelling_58 : decode cX13_isTelling 58 = .ok (.iadd, 1) := by decide +kernel
theorem dX13_isTelling_59 : decode cX13_isTelling 59 = .ok (.iaload, 1) := by decide +kernel
theorem dX13_isTelling_60 : decode cX13_isTelling 60 = .ok (.aload_n 0, 1) := by decide +kernel
theorem dX13_isTelling_61 : decode cX13_isTelling 61 = .ok (.getfield 335, 3) := by decide +kernel
theorem dX13_isTelling_64 : decode cX13_isTelling 64 = .ok (.getfield 285, 3) := by decide +kernel
theorem dX13_isTelling_67 : decode cX13_isTelling 67 = .ok (.iconst 5, 1) := by decide +kernel
theorem dX13_isTelling_68 : decode cX13_isTelling 68 = .ok (.iload_n 3, 1) := by decide +kernel
theorem dX13_isTelling_69 : decode cX13_isTelling 69 = .ok (.imul, 1) := by decide +kernel
theorem dX13_isTelling_70 : decode cX13_isTelling 70 = .ok (.iload 5, 2) := by decide +kernel
theorem dX13_isTelling_72 : decode cX13_isTelling 72 = .ok (.iadd, 1) := by decide +kernel
theorem dX13_isTelling_73 : decode cX13_isTelling 73 = .ok (.iaload, 1) := by decide +kernel
theorem dX13_isTelling_74 : decode cX13_isTelling 74 = .ok (.if_icmp .ne 7, 3) := by decide +kernel
theorem dX13_isTelling_77 : decode cX13_isTelling 77 = .ok (.iconst 1, 1) := by decide +kernel
theorem dX13_isTelling_78 : decode cX13_isTelling 78 = .ok (.goto 4, 3) := by decide +kernel
theorem dX13_isTelling_81 : decode cX13_isTelling 81 = .ok (.iconst 0, 1) := by decide +kernel
theorem dX13_isTelling_82 : decode cX13_isTelling 82 = .ok (.istore 4, 2) := by decide +kernel
theorem dX13_isTelling_84 : decode cX13_isTelling 84 = .ok (.iinc 5 1, 3) := by decide +kernel
theorem dX13_isTelling_87 : decode cX13_isTelling 87 = .ok (.goto (-61), 3) := by decide +kernel
theorem dX13_isTelling_90 : decode cX13_isTelling 90 = .ok (.iload 4, 2) := by decide +kernel
theorem dX13_isTelling_92 : decode cX13_isTelling 92 = .ok (.ifCond .eq 5, 3) := by decide +kernel
theorem dX13_isTelling_95 : decode cX13_isTelling 95 = .ok (.iconst 0, 1) := by decide +kernel
theorem dX13_isTelling_96 : decode cX13_isTelling 96 = .ok (.ireturn, 1) := by decide +kernel
theorem dX13_isTelling_97 : decode cX13_isTelling 97 = .ok (.iinc 3 1, 3) := by decide +kernel
theorem dX13_isTelling_100 : decode cX13_isTelling 100 = .ok (.goto (-85), 3) := by decide +kernel
theorem dX13_isTelling_103 : decode cX13_isTelling 103 = .ok (.iinc 2 1, 3) := by decide +kernel
theorem dX13_isTelling_106 : decode cX13_isTelling 106 = .ok (.goto (-104), 3) := by decide +kernel
theorem dX13_isTelling_109 : decode cX13_isTelling 109 = .ok (.iconst 1, 1) := by decide +kernel
theorem dX13_isTelling_110 : decode cX13_isTelling 110 = .ok (.ireturn, 1) := by decide +kernel
theorem dX13_tells_0 : decode cX13_tells 0 = .ok (.aload_n 0, 1) := by decide +kernel
theorem dX13_tells_1 : decode cX13_tells 1 = .ok (.iconst 0, 1) := by decide +kernel
theorem dX13_tells_2 : decode cX13_tells 2 = .ok (.putfield 51, 3) := by decide +kernel
theorem dX13_tells_5 : decode cX13_tells 5 = .ok (.aload_n 0, 1) := by decide +kernel
theorem dX13_tells_6 : decode cX13_tells 6 = .ok (.getfield 335, 3) := by decide +kernel
theorem dX13_tells_9 : decode cX13_tells 9 = .ok (.ifnonnull 9, 3) := by decide +kernel
theorem dX13_tells_12 : decode cX13_tells 12 = .ok (.aload_n 0, 1) := by decide +kernel
theorem dX13_tells_13 : decode cX13_tells 13 = .ok (.iconst 1, 1) := by decide +kernel
theorem dX13_tells_14 : decode cX13_tells 14 = .ok (.invokevirtual 57, 3) := by decide +kernel
theorem dX13_tells_17 : decode cX13_tells 17 = .ok (.ireturn, 1) := by decide +kernel
theorem dX13_tells_18 : decode cX13_tells 18 = .ok (.bipush (-2), 2) := by decide +kernel
theorem dX13_tells_20 : decode cX13_tells 20 = .ok (.istore_n 1, 1) := by decide +kernel
theorem dX13_tells_21 : decode cX13_tells 21 = .ok (.iconst 0, 1) := by decide +kernel
theorem dX13_tells_22 : decode cX13_tells 22 = .ok (.istore_n 2, 1) := by decide +kernel
theorem dX13_tells_23 : decode cX13_tells 23 = .ok (.iload_n 2, 1) := by decide +kernel
theorem dX13_tells_24 : decode cX13_tells 24 = .ok (.bipush 8, 2) := by decide +kernel
theorem dX13_tells_26 : decode cX13_tells 26 = .ok (.if_icmp .ge 36, 3) := by decide +kernel
theorem dX13_tells_29 : decode cX13_tells 29 = .ok (.aload_n 0, 1) := by decide +kernel
theorem dX13_tells_30 : decode cX13_tells 30 = .ok (.iload_n 2, 1) := by decide +kernel
theorem dX13_tells_31 : decode cX13_tells 31 = .ok (.invokevirtual 404, 3) := by decide +kernel
theorem dX13_tells_34 : decode cX13_tells 34 = .ok (.ifCond .eq 22, 3) := by decide +kernel
theorem dX13_tells_37 : decode cX13_tells 37 = .ok (.iload_n 1, 1) := by decide +kernel
theorem dX13_tells_38 : decode cX13_tells 38 = .ok (.bipush (-2), 2) := by decide +kernel
theorem dX13_tells_40 : decode cX13_tells 40 = .ok (.if_icmp .eq 14, 3) := by decide +kernel
theorem dX13_tells_43 : decode cX13_tells 43 = .ok (.iload_n 2, 1) := by decide +kernel
theorem dX13_tells_44 : decode cX13_tells 44 = .ok (.invokestatic 385, 3) := by decide +kernel
theorem dX13_tells_47 : decode cX13_tells 47 = .ok (.iload_n 1, 1) := by decide +kernel
theorem dX13_tells_48 : decode cX13_tells 48 = .ok (.invokestatic 385, 3) := by decide +kernel
theorem dX13_tells_51 : decode cX13_tells 51 = .ok (.if_icmp .ge 5, 3) := by decide +kernel
theorem dX13_tells_54 : decode cX13_tells 54 = .ok (.iload_n 2, 1) := by decide +kernel
theorem dX13_tells_55 : decode cX13_tells 55 = .ok (.istore_n 1, 1) := by decide +kernel
theorem dX13_tells_56 : decode cX13_tells 56 = .ok (.iinc 2 1, 3) := by decide +kernel
theorem dX13_tells_59 : decode cX13_tells 59 = .ok (.goto (-36), 3) := by decide +kernel
theorem dX13_tells_62 : decode cX13_tells 62 = .ok (.aload_n 0, 1) := by decide +kernel
theorem dX13_tells_63 : decode cX13_tells 63 = .ok (.iload_n 1, 1) := by decide +kernel
theorem dX13_tells_64 : decode cX13_tells 64 = .ok (.invokevirtual 61, 3) := by decide +kernel
theorem dX13_tells_67 : decode cX13_tells 67 = .ok (.ireturn, 1) := by decide +kernel
theorem dX13_finesBy_0 : decode cX13_finesBy 0 = .ok (.iconst 0, 1) := by decide +kernel
theorem dX13_finesBy_1 : decode cX13_finesBy 1 = .ok (.istore_n 2, 1) := by decide +kernel
theorem dX13_finesBy_2 : decode cX13_finesBy 2 = .ok (.iconst 0, 1) := by decide +kernel
theorem dX13_finesBy_3 : decode cX13_finesBy 3 = .ok (.istore_n 3, 1) := by decide +kernel
theorem dX13_finesBy_4 : decode cX13_finesBy 4 = .ok (.iload_n 3, 1) := by decide +kernel
theorem dX13_finesBy_5 : decode cX13_finesBy 5 = .ok (.aload_n 0, 1) := by decide +kernel
theorem dX13_finesBy_6 : decode cX13_finesBy 6 = .ok (.getfield 335, 3) := by decide +kernel
theorem dX13_finesBy_9 : decode cX13_finesBy 9 = .ok (.getfield 302, 3) := by decide +kernel
theorem dX13_finesBy_12 : decode cX13_finesBy 12 = .ok (.if_icmp .ge 68, 3) := by decide +kernel
theorem dX13_finesBy_15 : decode cX13_finesBy 15 = .ok (.aload_n 0, 1) := by decide +kernel
theorem dX13_finesBy_16 : decode cX13_finesBy 16 = .ok (.getfield 335, 3) := by decide +kernel
theorem dX13_finesBy_19 : decode cX13_finesBy 19 = .ok (.getfield 249, 3) := by decide +kernel
theorem dX13_finesBy_22 : decode cX13_finesBy 22 = .ok (.aload_n 0, 1) := by decide +kernel
theorem dX13_finesBy_23 : decode cX13_finesBy 23 = .ok (.getfield 335, 3) := by decide +kernel
theorem dX13_finesBy_26 : decode cX13_finesBy 26 = .ok (.getfield 310, 3) := by decide +kernel
theorem dX13_finesBy_29 : decode cX13_finesBy 29 = .ok (.iload_n 3, 1) := by decide +kernel
theorem dX13_finesBy_30 : decode cX13_finesBy 30 = .ok (.iaload, 1) := by decide +kernel
theorem dX13_finesBy_31 : decode cX13_finesBy 31 = .ok (.iaload, 1) := by decide +kernel
theorem dX13_finesBy_32 : decode cX13_finesBy 32 = .ok (.istore 4, 2) := by decide +kernel
theorem dX13_finesBy_34 : decode cX13_finesBy 34 = .ok (.iload_n 2, 1) := by decide +kernel
theorem dX13_finesBy_35 : decode cX13_finesBy 35 = .ok (.aload_n 0, 1) := by decide +kernel
theorem dX13_finesBy_36 : decode cX13_finesBy 36 = .ok (.getfield 335, 3) := by decide +kernel
theorem dX13_finesBy_39 : decode cX13_finesBy 39 = .ok (.aload_n 0, 1) := by decide +kernel
theorem dX13_finesBy_40 : decode cX13_finesBy 40 = .ok (.getfield 335, 3) := by decide +kernel
theorem dX13_finesBy_43 : decode cX13_finesBy 43 = .ok (.getfield 307, 3) := by decide +kernel
theorem dX13_finesBy_46 : decode cX13_finesBy 46 = .ok (.iload_n 3, 1) := by decide +kernel
theorem dX13_finesBy_47 : decode cX13_finesBy 47 = .ok (.iaload, 1) := by decide +kernel
theorem dX13_finesBy_48 : decode cX13_finesBy 48 = .ok (.iload 4, 2) := by decide +kernel
theorem dX13_finesBy_50 : decode cX13_finesBy 50 = .ok (.iload_n 1, 1) := by decide +kernel
theorem dX13_finesBy_51 : decode cX13_finesBy 51 = .ok (.if_icmp .ge 7, 3) := by decide +kernel
theorem dX13_finesBy_54 : decode cX13_finesBy 54 = .ok (.iload_n 1, 1) := by decide +kernel
theorem dX13_finesBy_55 : decode cX13_finesBy 55 = .ok (.goto 5, 3) := by decide +kernel
theorem dX13_finesBy_58 : decode cX13_finesBy 58 = .ok (.iload 4, 2) := by decide +kernel
theorem dX13_finesBy_60 : decode cX13_finesBy 60 = .ok (.aload_n 0, 1) := by decide +kernel
theorem dX13_finesBy_61 : decode cX13_finesBy 61 = .ok (.getfield 335, 3) := by decide +kernel
theorem dX13_finesBy_64 : decode cX13_finesBy 64 = .ok (.getfield 313, 3) := by decide +kernel
theorem dX13_finesBy_67 : decode cX13_finesBy 67 = .ok (.iload_n 3, 1) := by decide +kernel
theorem dX13_finesBy_68 : decode cX13_finesBy 68 = .ok (.iaload, 1) := by decide +kernel
theorem dX13_finesBy_69 : decode cX13_finesBy 69 = .ok (.invokevirtual 388, 3) := by decide +kernel
theorem dX13_finesBy_72 : decode cX13_finesBy 72 = .ok (.iadd, 1) := by decide +kernel
theorem dX13_finesBy_73 : decode cX13_finesBy 73 = .ok (.istore_n 2, 1) := by decide +kernel
theorem dX13_finesBy_74 : decode cX13_finesBy 74 = .ok (.iinc 3 1, 3) := by decide +kernel
theorem dX13_finesBy_77 : decode cX13_finesBy 77 = .ok (.goto (-73), 3) := by decide +kernel
theorem dX13_finesBy_80 : decode cX13_finesBy 80 = .ok (.iload_n 2, 1) := by decide +kernel
theorem dX13_finesBy_81 : decode cX13_finesBy 81 = .ok (.ireturn, 1) := by decide +kernel
theorem dX13_another_0 : decode cX13_another 0 = .ok (.aload_n 0, 1) := by decide +kernel
theorem dX13_another_1 : decode cX13_another 1 = .ok (.iconst 0, 1) := by decide +kernel
theorem dX13_another_2 : decode cX13_another 2 = .ok (.putfield 51, 3) := by decide +kernel
theorem dX13_another_5 : decode cX13_another 5 = .ok (.aload_n 0, 1) := by decide +kernel
theorem dX13_another_6 : decode cX13_another 6 = .ok (.getfield 335, 3) := by decide +kernel
theorem dX13_another_9 : decode cX13_another 9 = .ok (.ifnonnull 9, 3) := by decide +kernel
theorem dX13_another_12 : decode cX13_another 12 = .ok (.aload_n 0, 1) := by decide +kernel
theorem dX13_another_13 : decode cX13_another 13 = .ok (.iconst 1, 1) := by decide +kernel
theorem dX13_another_14 : decode cX13_another 14 = .ok (.invokevirtual 57, 3) := by decide +kernel
theorem dX13_another_17 : decode cX13_another 17 = .ok (.ireturn, 1) := by decide +kernel
theorem dX13_another_18 : decode cX13_another 18 = .ok (.iload_n 1, 1) := by decide +kernel
theorem dX13_another_19 : decode cX13_another 19 = .ok (.bipush 10, 2) := by decide +kernel
theorem dX13_another_21 : decode cX13_another 21 = .ok (.bipush 59, 2) := by decide +kernel
theorem dX13_another_23 : decode cX13_another 23 = .ok (.invokestatic 129, 3) := by decide +kernel
theorem dX13_another_26 : decode cX13_another 26 = .ok (.ifCond .eq 15, 3) := by decide +kernel
theorem dX13_another_29 : decode cX13_another 29 = .ok (.aload_n 0, 1) := by decide +kernel
theorem dX13_another_30 : decode cX13_another 30 = .ok (.aload_n 0, 1) := by decide +kernel
theorem dX13_another_31 : decode cX13_another 31 = .ok (.iload_n 1, 1) := by decide +kernel
theorem dX13_another_32 : decode cX13_another 32 = .ok (.invokevirtual 407, 3) := by decide +kernel
theorem dX13_another_35 : decode cX13_another 35 = .ok (.invokevirtual 61, 3) := by decide +kernel
theorem dX13_another_38 : decode cX13_another 38 = .ok (.goto 8, 3) := by decide +kernel
theorem dX13_another_41 : decode cX13_another 41 = .ok (.aload_n 0, 1) := by decide +kernel
theorem dX13_another_42 : decode cX13_another 42 = .ok (.iconst 2, 1) := by decide +kernel
theorem dX13_another_43 : decode cX13_another 43 = .ok (.invokevirtual 57, 3) := by decide +kernel
theorem dX13_another_46 : decode cX13_another 46 = .ok (.ireturn, 1) := by decide +kernel
theorem dX13_leastSill_0 : decode cX13_leastSill 0 = .ok (.aload_n 0, 1) := by decide +kernel
theorem dX13_leastSill_1 : decode cX13_leastSill 1 = .ok (.iconst 0, 1) := by decide +kernel
theorem dX13_leastSill_2 : decode cX13_leastSill 2 = .ok (.putfield 51, 3) := by decide +kernel
theorem dX13_leastSill_5 : decode cX13_leastSill 5 = .ok (.aload_n 0, 1) := by decide +kernel
theorem dX13_leastSill_6 : decode cX13_leastSill 6 = .ok (.getfield 335, 3) := by decide +kernel
theorem dX13_leastSill_9 : decode cX13_leastSill 9 = .ok (.ifnonnull 9, 3) := by decide +kernel
theorem dX13_leastSill_12 : decode cX13_leastSill 12 = .ok (.aload_n 0, 1) := by decide +kernel
theorem dX13_leastSill_13 : decode cX13_leastSill 13 = .ok (.iconst 1, 1) := by decide +kernel
theorem dX13_leastSill_14 : decode cX13_leastSill 14 = .ok (.invokevirtual 57, 3) := by decide +kernel
theorem dX13_leastSill_17 : decode cX13_leastSill 17 = .ok (.ireturn, 1) := by decide +kernel
theorem dX13_leastSill_18 : decode cX13_leastSill 18 = .ok (.bipush 10, 2) := by decide +kernel
theorem dX13_leastSill_20 : decode cX13_leastSill 20 = .ok (.istore_n 1, 1) := by decide +kernel
theorem dX13_leastSill_21 : decode cX13_leastSill 21 = .ok (.iload_n 1, 1) := by decide +kernel
theorem dX13_leastSill_22 : decode cX13_leastSill 22 = .ok (.bipush 59, 2) := by decide +kernel
theorem dX13_leastSill_24 : decode cX13_leastSill 24 = .ok (.if_icmp .gt 23, 3) := by decide +kernel
theorem dX13_leastSill_27 : decode cX13_leastSill 27 = .ok (.aload_n 0, 1) := by decide +kernel
theorem dX13_leastSill_28 : decode cX13_leastSill 28 = .ok (.iload_n 1, 1) := by decide +kernel
theorem dX13_leastSill_29 : decode cX13_leastSill 29 = .ok (.invokevirtual 407, 3) := by decide +kernel
theorem dX13_leastSill_32 : decode cX13_leastSill 32 = .ok (.ifCond .ne 9, 3) := by decide +kernel
theorem dX13_leastSill_35 : decode cX13_leastSill 35 = .ok (.aload_n 0, 1) := by decide +kernel
theorem dX13_leastSill_36 : decode cX13_leastSill 36 = .ok (.iload_n 1, 1) := by decide +kernel
theorem dX13_leastSill_37 : decode cX13_leastSill 37 = .ok (.invokevirtual 61, 3) := by decide +kernel
theorem dX13_leastSill_40 : decode cX13_leastSill 40 = .ok (.ireturn, 1) := by decide +kernel
theorem dX13_leastSill_41 : decode cX13_leastSill 41 = .ok (.iinc 1 1, 3) := by decide +kernel
theorem dX13_leastSill_44 : decode cX13_leastSill 44 = .ok (.goto (-23), 3) := by decide +kernel
theorem dX13_leastSill_47 : decode cX13_leastSill 47 = .ok (.aload_n 0, 1) := by decide +kernel
theorem dX13_leastSill_48 : decode cX13_leastSill 48 = .ok (.bipush (-2), 2) := by decide +kernel
theorem dX13_leastSill_50 : decode cX13_leastSill 50 = .ok (.invokevirtual 61, 3) := by decide +kernel
theorem dX13_leastSill_53 : decode cX13_leastSill 53 = .ok (.ireturn, 1) := by decide +kernel
theorem dX13_way_0 : decode cX13_way 0 = .ok (.aload_n 0, 1) := by decide +kernel
theorem dX13_way_1 : decode cX13_way 1 = .ok (.iconst 0, 1) := by decide +kernel
theorem dX13_way_2 : decode cX13_way 2 = .ok (.putfield 51, 3) := by decide +kernel
theorem dX13_way_5 : decode cX13_way 5 = .ok (.aload_n 0, 1) := by decide +kernel
theorem dX13_way_6 : decode cX13_way 6 = .ok (.iload_n 1, 1) := by decide +kernel
theorem dX13_way_7 : decode cX13_way 7 = .ok (.invokevirtual 352, 3) := by decide +kernel
theorem dX13_way_10 : decode cX13_way 10 = .ok (.ifCond .eq 11, 3) := by decide +kernel
theorem dX13_way_13 : decode cX13_way 13 = .ok (.aload_n 0, 1) := by decide +kernel
theorem dX13_way_14 : decode cX13_way 14 = .ok (.iload_n 2, 1) := by decide +kernel
theorem dX13_way_15 : decode cX13_way 15 = .ok (.invokevirtual 352, 3) := by decide +kernel
theorem dX13_way_18 : decode cX13_way 18 = .ok (.ifCond .ne 9, 3) := by decide +kernel
theorem dX13_way_21 : decode cX13_way 21 = .ok (.aload_n 0, 1) := by decide +kernel
theorem dX13_way_22 : decode cX13_way 22 = .ok (.iconst 1, 1) := by decide +kernel
theorem dX13_way_23 : decode cX13_way 23 = .ok (.invokevirtual 57, 3) := by decide +kernel
theorem dX13_way_26 : decode cX13_way 26 = .ok (.ireturn, 1) := by decide +kernel
theorem dX13_way_27 : decode cX13_way 27 = .ok (.aload_n 0, 1) := by decide +kernel
theorem dX13_way_28 : decode cX13_way 28 = .ok (.aload_n 0, 1) := by decide +kernel
theorem dX13_way_29 : decode cX13_way 29 = .ok (.getfield 335, 3) := by decide +kernel
theorem dX13_way_32 : decode cX13_way 32 = .ok (.iload_n 1, 1) := by decide +kernel
theorem dX13_way_33 : decode cX13_way 33 = .ok (.iload_n 2, 1) := by decide +kernel
theorem dX13_way_34 : decode cX13_way 34 = .ok (.invokevirtual 410, 3) := by decide +kernel
theorem dX13_way_37 : decode cX13_way 37 = .ok (.ldc_w 413, 3) := by decide +kernel
theorem dX13_way_40 : decode cX13_way 40 = .ok (.if_icmp .lt 8, 3) := by decide +kernel
theorem dX13_way_43 : decode cX13_way 43 = .ok (.bipush (-2), 2) := by decide +kernel
theorem dX13_way_45 : decode cX13_way 45 = .ok (.goto 12, 3) := by decide +kernel
theorem dX13_way_48 : decode cX13_way 48 = .ok (.aload_n 0, 1) := by decide +kernel
theorem dX13_way_49 : decode cX13_way 49 = .ok (.getfield 335, 3) := by decide +kernel
theorem dX13_way_52 : decode cX13_way 52 = .ok (.iload_n 1, 1) := by decide +kernel
theorem dX13_way_53 : decode cX13_way 53 = .ok (.iload_n 2, 1) := by decide +kernel
theorem dX13_way_54 : decode cX13_way 54 = .ok (.invokevirtual 410, 3) := by decide +kernel
theorem dX13_way_57 : decode cX13_way 57 = .ok (.invokevirtual 61, 3) := by decide +kernel
theorem dX13_way_60 : decode cX13_way 60 = .ok (.ireturn, 1) := by decide +kernel
