theorem dX13_init_0 : decode cX13_init 0 = .ok (.aload_n 0, 1) := by decide +kernel
theorem dX13_init_1 : decode cX13_init 1 = .ok (.invokespecial 3, 3) := by decide +kernel
theorem dX13_init_4 : decode cX13_init 4 = .ok (.aload_n 0, 1) := by decide +kernel
theorem dX13_init_5 : decode cX13_init 5 = .ok (.iconst (-1), 1) := by decide +kernel
theorem dX13_init_6 : decode cX13_init 6 = .ok (.putfield 9, 3) := by decide +kernel
theorem dX13_init_9 : decode cX13_init 9 = .ok (.aload_n 0, 1) := by decide +kernel
theorem dX13_init_10 : decode cX13_init 10 = .ok (.sipush 1100, 3) := by decide +kernel
theorem dX13_init_13 : decode cX13_init 13 = .ok (.newarray .byte, 2) := by decide +kernel
theorem dX13_init_15 : decode cX13_init 15 = .ok (.putfield 13, 3) := by decide +kernel
theorem dX13_init_18 : decode cX13_init 18 = .ok (.aload_n 0, 1) := by decide +kernel
theorem dX13_init_19 : decode cX13_init 19 = .ok (.bipush 13, 2) := by decide +kernel
theorem dX13_init_21 : decode cX13_init 21 = .ok (.newarray .int, 2) := by decide +kernel
theorem dX13_init_23 : decode cX13_init 23 = .ok (.putfield 17, 3) := by decide +kernel
theorem dX13_init_26 : decode cX13_init 26 = .ok (.aload_n 0, 1) := by decide +kernel
theorem dX13_init_27 : decode cX13_init 27 = .ok (.sipush 208, 3) := by decide +kernel
theorem dX13_init_30 : decode cX13_init 30 = .ok (.newarray .int, 2) := by decide +kernel
theorem dX13_init_32 : decode cX13_init 32 = .ok (.putfield 21, 3) := by decide +kernel
theorem dX13_init_35 : decode cX13_init 35 = .ok (.aload_n 0, 1) := by decide +kernel
theorem dX13_init_36 : decode cX13_init 36 = .ok (.bipush 39, 2) := by decide +kernel
theorem dX13_init_38 : decode cX13_init 38 = .ok (.newarray .int, 2) := by decide +kernel
theorem dX13_init_40 : decode cX13_init 40 = .ok (.putfield 24, 3) := by decide +kernel
theorem dX13_init_43 : decode cX13_init 43 = .ok (.aload_n 0, 1) := by decide +kernel
theorem dX13_init_44 : decode cX13_init 44 = .ok (.sipush 160, 3) := by decide +kernel
theorem dX13_init_47 : decode cX13_init 47 = .ok (.newarray .int, 2) := by decide +kernel
theorem dX13_init_49 : decode cX13_init 49 = .ok (.putfield 27, 3) := by decide +kernel
theorem dX13_init_52 : decode cX13_init 52 = .ok (.aload_n 0, 1) := by decide +kernel
theorem dX13_init_53 : decode cX13_init 53 = .ok (.sipush 192, 3) := by decide +kernel
theorem dX13_init_56 : decode cX13_init 56 = .ok (.newarray .int, 2) := by decide +kernel
theorem dX13_init_58 : decode cX13_init 58 = .ok (.putfield 30, 3) := by decide +kernel
theorem dX13_init_61 : decode cX13_init 61 = .ok (.aload_n 0, 1) := by decide +kernel
theorem dX13_init_62 : decode cX13_init 62 = .ok (.iconst 5, 1) := by decide +kernel
theorem dX13_init_63 : decode cX13_init 63 = .ok (.newarray .int, 2) := by decide +kernel
theorem dX13_init_65 : decode cX13_init 65 = .ok (.putfield 33, 3) := by decide +kernel
theorem dX13_init_68 : decode cX13_init 68 = .ok (.aload_n 0, 1) := by decide +kernel
theorem dX13_init_69 : decode cX13_init 69 = .ok (.iconst 5, 1) := by decide +kernel
theorem dX13_init_70 : decode cX13_init 70 = .ok (.newarray .int, 2) := by decide +kernel
theorem dX13_init_72 : decode cX13_init 72 = .ok (.putfield 36, 3) := by decide +kernel
theorem dX13_init_75 : decode cX13_init 75 = .ok (.aload_n 0, 1) := by decide +kernel
theorem dX13_init_76 : decode cX13_init 76 = .ok (.bipush 6, 2) := by decide +kernel
theorem dX13_init_78 : decode cX13_init 78 = .ok (.newarray .int, 2) := by decide +kernel
theorem dX13_init_80 : decode cX13_init 80 = .ok (.putfield 39, 3) := by decide +kernel
theorem dX13_init_83 : decode cX13_init 83 = .ok (.aload_n 0, 1) := by decide +kernel
theorem dX13_init_84 : decode cX13_init 84 = .ok (.sipush 384, 3) := by decide +kernel
theorem dX13_init_87 : decode cX13_init 87 = .ok (.newarray .int, 2) := by decide +kernel
theorem dX13_init_89 : decode cX13_init 89 = .ok (.putfield 42, 3) := by decide +kernel
theorem dX13_init_92 : decode cX13_init 92 = .ok (.aload_n 0, 1) := by decide +kernel
theorem dX13_init_93 : decode cX13_init 93 = .ok (.iconst 5, 1) := by decide +kernel
theorem dX13_init_94 : decode cX13_init 94 = .ok (.newarray .int, 2) := by decide +kernel
theorem dX13_init_96 : decode cX13_init 96 = .ok (.putfield 45, 3) := by decide +kernel
theorem dX13_init_99 : decode cX13_init 99 = .ok (.aload_n 0, 1) := by decide +kernel
theorem dX13_init_100 : decode cX13_init 100 = .ok (.bipush 30, 2) := by decide +kernel
theorem dX13_init_102 : decode cX13_init 102 = .ok (.newarray .int, 2) := by decide +kernel
theorem dX13_init_104 : decode cX13_init 104 = .ok (.putfield 48, 3) := by decide +kernel
theorem dX13_init_107 : decode cX13_init 107 = .ok (.return_, 1) := by decide +kernel
theorem dX13_thrown_0 : decode cX13_thrown 0 = .ok (.aload_n 0, 1) := by decide +kernel
theorem dX13_thrown_1 : decode cX13_thrown 1 = .ok (.getfield 51, 3) := by decide +kernel
theorem dX13_thrown_4 : decode cX13_thrown 4 = .ok (.ireturn, 1) := by decide +kernel
theorem dX13_refused_0 : decode cX13_refused 0 = .ok (.aload_n 0, 1) := by decide +kernel
theorem dX13_refused_1 : decode cX13_refused 1 = .ok (.iload_n 1, 1) := by decide +kernel
theorem dX13_refused_2 : decode cX13_refused 2 = .ok (.putfield 54, 3) := by decide +kernel
theorem dX13_refused_5 : decode cX13_refused 5 = .ok (.aload_n 0, 1) := by decide +kernel
theorem dX13_refused_6 : decode cX13_refused 6 = .ok (.iconst (-1), 1) := by decide +kernel
theorem dX13_refused_7 : decode cX13_refused 7 = .ok (.putfield 9, 3) := by decide +kernel
theorem dX13_refused_10 : decode cX13_refused 10 = .ok (.iconst (-1), 1) := by decide +kernel
theorem dX13_refused_11 : decode cX13_refused 11 = .ok (.ireturn, 1) := by decide +kernel
theorem dX13_lost_0 : decode cX13_lost 0 = .ok (.aload_n 0, 1) := by decide +kernel
theorem dX13_lost_1 : decode cX13_lost 1 = .ok (.iload_n 1, 1) := by decide +kernel
theorem dX13_lost_2 : decode cX13_lost 2 = .ok (.invokevirtual 57, 3) := by decide +kernel
theorem dX13_lost_5 : decode cX13_lost 5 = .ok (.pop, 1) := by decide +kernel
theorem dX13_lost_6 : decode cX13_lost 6 = .ok (.bipush (-100), 2) := by decide +kernel
theorem dX13_lost_8 : decode cX13_lost 8 = .ok (.ireturn, 1) := by decide +kernel
theorem dX13_denied_0 : decode cX13_denied 0 = .ok (.aload_n 0, 1) := by decide +kernel
theorem dX13_denied_1 : decode cX13_denied 1 = .ok (.iload_n 1, 1) := by decide +kernel
theorem dX13_denied_2 : decode cX13_denied 2 = .ok (.invokevirtual 57, 3) := by decide +kernel
theorem dX13_denied_5 : decode cX13_denied 5 = .ok (.pop, 1) := by decide +kernel
theorem dX13_denied_6 : decode cX13_denied 6 = .ok (.iconst 0, 1) := by decide +kernel
theorem dX13_denied_7 : decode cX13_denied 7 = .ok (.ireturn, 1) := by decide +kernel
theorem dX13_fair_0 : decode cX13_fair 0 = .ok (.aload_n 0, 1) := by decide +kernel
theorem dX13_fair_1 : decode cX13_fair 1 = .ok (.iconst 0, 1) := by decide +kernel
theorem dX13_fair_2 : decode cX13_fair 2 = .ok (.putfield 54, 3) := by decide +kernel
theorem dX13_fair_5 : decode cX13_fair 5 = .ok (.aload_n 0, 1) := by decide +kernel
theorem dX13_fair_6 : decode cX13_fair 6 = .ok (.iconst (-1), 1) := by decide +kernel
theorem dX13_fair_7 : decode cX13_fair 7 = .ok (.putfield 9, 3) := by decide +kernel
theorem dX13_fair_10 : decode cX13_fair 10 = .ok (.iload_n 1, 1) := by decide +kernel
theorem dX13_fair_11 : decode cX13_fair 11 = .ok (.ireturn, 1) := by decide +kernel
theorem dX13_granted_0 : decode cX13_granted 0 = .ok (.aload_n 0, 1) := by decide +kernel
theorem dX13_granted_1 : decode cX13_granted 1 = .ok (.iconst 0, 1) := by decide +kernel
theorem dX13_granted_2 : decode cX13_granted 2 = .ok (.invokevirtual 61, 3) := by decide +kernel
theorem dX13_granted_5 : decode cX13_granted 5 = .ok (.pop, 1) := by decide +kernel
theorem dX13_granted_6 : decode cX13_granted 6 = .ok (.iconst 1, 1) := by decide +kernel
theorem dX13_granted_7 : decode cX13_granted 7 = .ok (.ireturn, 1) := by decide +kernel
theorem dX13_in_0 : decode cX13_in 0 = .ok (.iload_n 0, 1) := by decide +kernel
theorem dX13_in_1 : decode cX13_in 1 = .ok (.iload_n 1, 1) := by decide +kernel
theorem dX13_in_2 : decode cX13_in 2 = .ok (.if_icmp .lt 12, 3) := by decide +kernel
theorem dX13_in_5 : decode cX13_in 5 = .ok (.iload_n 0, 1) := by decide +kernel
theorem dX13_in_6 : decode cX13_in 6 = .ok (.iload_n 2, 1) := by decide +kernel
theorem dX13_in_7 : decode cX13_in 7 = .ok (.if_icmp .gt 7, 3) := by decide +kernel
theorem dX13_in_10 : decode cX13_in 10 = .ok (.iconst 1, 1) := by decide +kernel
theorem dX13_in_11 : decode cX13_in 11 = .ok (.goto 4, 3) := by decide +kernel
theorem dX13_in_14 : decode cX13_in 14 = .ok (.iconst 0, 1) := by decide +kernel
theorem dX13_in_15 : decode cX13_in 15 = .ok (.ireturn, 1) := by decide +kernel
theorem dX13_bit_0 : decode cX13_bit 0 = .ok (.iload_n 0, 1) := by decide +kernel
theorem dX13_bit_1 : decode cX13_bit 1 = .ok (.iload_n 1, 1) := by decide +kernel
theorem dX13_bit_2 : decode cX13_bit 2 = .ok (.ishr, 1) := by decide +kernel
theorem dX13_bit_3 : decode cX13_bit 3 = .ok (.iconst 1, 1) := by decide +kernel
theorem dX13_bit_4 : decode cX13_bit 4 = .ok (.iand, 1) := by decide +kernel
theorem dX13_bit_5 : decode cX13_bit 5 = .ok (.iconst 1, 1) := by decide +kernel
theorem dX13_bit_6 : decode cX13_bit 6 = .ok (.if_icmp .ne 7, 3) := by decide +kernel
theorem dX13_bit_9 : decode cX13_bit 9 = .ok (.iconst 1, 1) := by decide +kernel
theorem dX13_bit_10 : decode cX13_bit 10 = .ok (.goto 4, 3) := by decide +kernel
theorem dX13_bit_13 : decode cX13_bit 13 = .ok (.iconst 0, 1) := by decide +kernel
theorem dX13_bit_14 : decode cX13_bit 14 = .ok (.ireturn, 1) := by decide +kernel
theorem dX13_bits_0 : decode cX13_bits 0 = .ok (.iconst 0, 1) := by decide +kernel
theorem dX13_bits_1 : decode cX13_bits 1 = .ok (.istore_n 1, 1) := by decide +kernel
theorem dX13_bits_2 : decode cX13_bits 2 = .ok (.iload_n 0, 1) := by decide +kernel
theorem dX13_bits_3 : decode cX13_bits 3 = .ok (.istore_n 2, 1) := by decide +kernel
theorem dX13_bits_4 : decode cX13_bits 4 = .ok (.iload_n 2, 1) := by decide +kernel
theorem dX13_bits_5 : decode cX13_bits 5 = .ok (.ifCond .eq 15, 3) := by decide +kernel
theorem dX13_bits_8 : decode cX13_bits 8 = .ok (.iinc 1 1, 3) := by decide +kernel
theorem dX13_bits_11 : decode cX13_bits 11 = .ok (.iload_n 2, 1) := by decide +kernel
theorem dX13_bits_12 : decode cX13_bits 12 = .ok (.iload_n 2, 1) := by decide +kernel
theorem dX13_bits_13 : decode cX13_bits 13 = .ok (.iconst 1, 1) := by decide +kernel
theorem dX13_bits_14 : decode cX13_bits 14 = .ok (.isub, 1) := by decide +kernel
theorem dX13_bits_15 : decode cX13_bits 15 = .ok (.iand, 1) := by decide +kernel
theorem dX13_bits_16 : decode cX13_bits 16 = .ok (.istore_n 2, 1) := by decide +kernel
theorem dX13_bits_17 : decode cX13_bits 17 = .ok (.goto (-13), 3) := by decide +kernel
theorem dX13_bits_20 : decode cX13_bits 20 = .ok (.iload_n 1, 1) := by decide +kernel
theorem dX13_bits_21 : decode cX13_bits 21 = .ok (.ireturn, 1) := by decide +kernel
theorem dX13_byteAt_0 : decode cX13_byteAt 0 = .ok (.iload_n 1, 1) := by decide +kernel
theorem dX13_byteAt_1 : decode cX13_byteAt 1 = .ok (.aload_n 0, 1) := by decide +kernel
theorem dX13_byteAt_2 : decode cX13_byteAt 2 = .ok (.getfield 64, 3) := by decide +kernel
theorem dX13_byteAt_5 : decode cX13_byteAt 5 = .ok (.if_icmp .ge 16, 3) := by decide +kernel
theorem dX13_byteAt_8 : decode cX13_byteAt 8 = .ok (.aload_n 0, 1) := by decide +kernel
theorem dX13_byteAt_9 : decode cX13_byteAt 9 = .ok (.getfield 13, 3) := by decide +kernel
theorem dX13_byteAt_12 : decode cX13_byteAt 12 = .ok (.iload_n 1, 1) := by decide +kernel
theorem dX13_byteAt_13 : decode cX13_byteAt 13 = .ok (.baload, 1) := by decide +kernel
theorem dX13_byteAt_14 : decode cX13_byteAt 14 = .ok (.sipush 255, 3) := by decide +kernel
theorem dX13_byteAt_17 : decode cX13_byteAt 17 = .ok (.iand, 1) := by decide +kernel
theorem dX13_byteAt_18 : decode cX13_byteAt 18 = .ok (.goto 4, 3) := by decide +kernel
theorem dX13_byteAt_21 : decode cX13_byteAt 21 = .ok (.iconst (-1), 1) := by decide +kernel
theorem dX13_byteAt_22 : decode cX13_byteAt 22 = .ok (.ireturn, 1) := by decide +kernel
theorem dX13_isLetter_0 : decode cX13_isLetter 0 = .ok (.iload_n 0, 1) := by decide +kernel
theorem dX13_isLetter_1 : decode cX13_isLetter 1 = .ok (.bipush 97, 2) := by decide +kernel
theorem dX13_isLetter_3 : decode cX13_isLetter 3 = .ok (.if_icmp .lt 13, 3) := by decide +kernel
theorem dX13_isLetter_6 : decode cX13_isLetter 6 = .ok (.iload_n 0, 1) := by decide +kernel
theorem dX13_isLetter_7 : decode cX13_isLetter 7 = .ok (.bipush 122, 2) := by decide +kernel
theorem dX13_isLetter_9 : decode cX13_isLetter 9 = .ok (.if_icmp .gt 7, 3) := by decide +kernel
theorem dX13_isLetter_12 : decode cX13_isLetter 12 = .ok (.iconst 1, 1) := by decide +kernel
theorem dX13_isLetter_13 : decode cX13_isLetter 13 = .ok (.goto 4, 3) := by decide +kernel
theorem dX13_isLetter_16 : decode cX13_isLetter 16 = .ok (.iconst 0, 1) := by decide +kernel
theorem dX13_isLetter_17 : decode cX13_isLetter 17 = .ok (.ireturn, 1) := by decide +kernel
theorem dX13_isDigit_0 : decode cX13_isDigit 0 = .ok (.iload_n 0, 1) := by decide +kernel
theorem dX13_isDigit_1 : decode cX13_isDigit 1 = .ok (.bipush 48, 2) := by decide +kernel
theorem dX13_isDigit_3 : decode cX13_isDigit 3 = .ok (.if_icmp .lt 13, 3) := by decide +kernel
theorem dX13_isDigit_6 : decode cX13_isDigit 6 = .ok (.iload_n 0, 1) := by decide +kernel
theorem dX13_isDigit_7 : decode cX13_isDigit 7 = .ok (.bipush 57, 2) := by decide +kernel
theorem dX13_isDigit_9 : decode cX13_isDigit 9 = .ok (.if_icmp .gt 7, 3) := by decide +kernel
theorem dX13_isDigit_12 : decode cX13_isDigit 12 = .ok (.iconst 1, 1) := by decide +kernel
theorem dX13_isDigit_13 : decode cX13_isDigit 13 = .ok (.goto 4, 3) := by decide +kernel
theorem dX13_isDigit_16 : decode cX13_isDigit 16 = .ok (.iconst 0, 1) := by decide +kernel
theorem dX13_isDigit_17 : decode cX13_isDigit 17 = .ok (.ireturn, 1) := by decide +kernel
theorem dX13_packed_0 : decode cX13_packed 0 = .ok (.lconst 0, 1) := by decide +kernel
theorem dX13_packed_1 : decode cX13_packed 1 = .ok (.lstore_n 1, 1) := by decide +kernel
theorem dX13_packed_2 : decode cX13_packed 2 = .ok (.iconst 0, 1) := by decide +kernel
theorem dX13_packed_3 : decode cX13_packed 3 = .ok (.istore_n 3, 1) := by decide +kernel
theorem dX13_packed_4 : decode cX13_packed 4 = .ok (.iload_n 3, 1) := by decide +kernel
theorem dX13_packed_5 : decode cX13_packed 5 = .ok (.aload_n 0, 1) := by decide +kernel
theorem dX13_packed_6 : decode cX13_packed 6 = .ok (.invokevirtual 67, 3) := by decide +kernel
theorem dX13_packed_9 : decode cX13_packed 9 = .ok (.if_icmp .ge 27, 3) := by decide +kernel
theorem dX13_packed_12 : decode cX13_packed 12 = .ok (.ldc2_w 73, 3) := by decide +kernel
theorem dX13_packed_15 : decode cX13_packed 15 = .ok (.lload_n 1, 1) := by decide +kernel
theorem dX13_packed_16 : decode cX13_packed 16 = .ok (.lmul, 1) := by decide +kernel
theorem dX13_packed_17 : decode cX13_packed 17 = .ok (.aload_n 0, 1) := by decide +kernel
theorem dX13_packed_18 : decode cX13_packed 18 = .ok (.iload_n 3, 1) := by decide +kernel
theorem dX13_packed_19 : decode cX13_packed 19 = .ok (.invokevirtual 75, 3) := by decide +kernel
theorem dX13_packed_22 : decode cX13_packed 22 = .ok (.bipush 97, 2) := by decide +kernel
theorem dX13_packed_24 : decode cX13_packed 24 = .ok (.isub, 1) := by decide +kernel
theorem dX13_packed_25 : decode cX13_packed 25 = .ok (.iconst 1, 1) := by decide +kernel
theorem dX13_packed_26 : decode cX13_packed 26 = .ok (.iadd, 1) := by decide +kernel
theorem dX13_packed_27 : decode cX13_packed 27 = .ok (.i2l, 1) := by decide +kernel
theorem dX13_packed_28 : decode cX13_packed 28 = .ok (.ladd, 1) := by decide +kernel
theorem dX13_packed_29 : decode cX13_packed 29 = .ok (.lstore_n 1, 1) := by decide +kernel
theorem dX13_packed_30 : decode cX13_packed 30 = .ok (.iinc 3 1, 3) := by decide +kernel
theorem dX13_packed_33 : decode cX13_packed 33 = .ok (.goto (-29), 3) := by decide +kernel
theorem dX13_packed_36 : decode cX13_packed 36 = .ok (.lload_n 1, 1) := by decide +kernel
theorem dX13_packed_37 : decode cX13_packed 37 = .ok (.lreturn, 1) := by decide +kernel
theorem dX13_goesOn_0 : decode cX13_goesOn 0 = .ok (.aload_n 0, 1) := by decide +kernel
theorem dX13_goesOn_1 : decode cX13_goesOn 1 = .ok (.getfield 79, 3) := by decide +kernel
theorem dX13_goesOn_4 : decode cX13_goesOn 4 = .ok (.iconst 5, 1) := by decide +kernel
theorem dX13_goesOn_5 : decode cX13_goesOn 5 = .ok (.if_icmp .ne 4, 3) := by decide +kernel
theorem dX13_goesOn_8 : decode cX13_goesOn 8 = .ok (.return_, 1) := by decide +kernel
theorem dX13_goesOn_9 : decode cX13_goesOn 9 = .ok (.aload_n 0, 1) := by decide +kernel
theorem dX13_goesOn_10 : decode cX13_goesOn 10 = .ok (.aload_n 0, 1) := by decide +kernel
theorem dX13_goesOn_11 : decode cX13_goesOn 11 = .ok (.getfield 82, 3) := by decide +kernel
theorem dX13_goesOn_14 : decode cX13_goesOn 14 = .ok (.invokevirtual 85, 3) := by decide +kernel
theorem dX13_goesOn_17 : decode cX13_goesOn 17 = .ok (.bipush 32, 2) := by decide +kernel
theorem dX13_goesOn_19 : decode cX13_goesOn 19 = .ok (.if_icmp .ne 16, 3) := by decide +kernel
theorem dX13_goesOn_22 : decode cX13_goesOn 22 = .ok (.aload_n 0, 1) := by decide +kernel
theorem dX13_goesOn_23 : decode cX13_goesOn 23 = .ok (.dup, 1) := by decide +kernel
theorem dX13_goesOn_24 : decode cX13_goesOn 24 = .ok (.getfield 82, 3) := by decide +kernel
theorem dX13_goesOn_27 : decode cX13_goesOn 27 = .ok (.iconst 1, 1) := by decide +kernel
theorem dX13_goesOn_28 : decode cX13_goesOn 28 = .ok (.iadd, 1) := by decide +kernel
theorem dX13_goesOn_29 : decode cX13_goesOn 29 = .ok (.putfield 82, 3) := by decide +kernel
theorem dX13_goesOn_32 : decode cX13_goesOn 32 = .ok (.goto (-23), 3) := by decide +kernel
theorem dX13_goesOn_35 : decode cX13_goesOn 35 = .ok (.aload_n 0, 1) := by decide +kernel
theorem dX13_goesOn_36 : decode cX13_goesOn 36 = .ok (.aload_n 0, 1) := by decide +kernel
theorem dX13_goesOn_37 : decode cX13_goesOn 37 = .ok (.getfield 82, 3) := by decide +kernel
theorem dX13_goesOn_40 : decode cX13_goesOn 40 = .ok (.putfield 88, 3) := by decide +kernel
theorem dX13_goesOn_43 : decode cX13_goesOn 43 = .ok (.aload_n 0, 1) := by decide +kernel
theorem dX13_goesOn_44 : decode cX13_goesOn 44 = .ok (.iconst 0, 1) := by decide +kernel
theorem dX13_goesOn_45 : decode cX13_goesOn 45 = .ok (.putfield 79, 3) := by decide +kernel
theorem dX13_goesOn_48 : decode cX13_goesOn 48 = .ok (.aload_n 0, 1) := by decide +kernel
theorem dX13_goesOn_49 : decode cX13_goesOn 49 = .ok (.aload_n 0, 1) := by decide +kernel
theorem dX13_goesOn_50 : decode cX13_goesOn 50 = .ok (.getfield 82, 3) := by decide +kernel
theorem dX13_goesOn_53 : decode cX13_goesOn 53 = .ok (.invokevirtual 85, 3) := by decide +kernel
theorem dX13_goesOn_56 : decode cX13_goesOn 56 = .ok (.istore_n 1, 1) := by decide +kernel
theorem dX13_goesOn_57 : decode cX13_goesOn 57 = .ok (.iconst 0, 1) := by decide +kernel
theorem dX13_goesOn_58 : decode cX13_goesOn 58 = .ok (.istore_n 2, 1) := by decide +kernel
theorem dX13_goesOn_59 : decode cX13_goesOn 59 = .ok (.iload_n 1, 1) := by decide +kernel
theorem dX13_goesOn_60 : decode cX13_goesOn 60 = .ok (.iconst (-1), 1) := by decide +kernel
theorem dX13_goesOn_61 : decode cX13_goesOn 61 = .ok (.if_icmp .ne 11, 3) := by decide +kernel
theorem dX13_goesOn_64 : decode cX13_goesOn 64 = .ok (.aload_n 0, 1) := by decide +kernel
theorem dX13_goesOn_65 : decode cX13_goesOn 65 = .ok (.iconst 1, 1) := by decide +kernel
theorem dX13_goesOn_66 : decode cX13_goesOn 66 = .ok (.putfield 79, 3) := by decide +kernel
theorem dX13_goesOn_69 : decode cX13_goesOn 69 = .ok (.goto 201, 3) := by decide +kernel
theorem dX13_goesOn_72 : decode cX13_goesOn 72 = .ok (.iload_n 1, 1) := by decide +kernel
theorem dX13_goesOn_73 : decode cX13_goesOn 73 = .ok (.invokestatic 91, 3) := by decide +kernel
theorem dX13_goesOn_76 : decode cX13_goesOn 76 = .ok (.ifCond .eq 90, 3) := by decide +kernel
theorem dX13_goesOn_79 : decode cX13_goesOn 79 = .ok (.aload_n 0, 1) := by decide +kernel
theorem dX13_goesOn_80 : decode cX13_goesOn 80 = .ok (.lconst 0, 1) := by decide +kernel
theorem dX13_goesOn_81 : decode cX13_goesOn 81 = .ok (.putfield 95, 3) := by decide +kernel
theorem dX13_goesOn_84 : decode cX13_goesOn 84 = .ok (.aload_n 0, 1) := by decide +kernel
theorem dX13_goesOn_85 : decode cX13_goesOn 85 = .ok (.aload_n 0, 1) := by decide +kernel
theorem dX13_goesOn_86 : decode cX13_goesOn 86 = .ok (.getfield 82, 3) := by decide +kernel
theorem dX13_goesOn_89 : decode cX13_goesOn 89 = .ok (.invokevirtual 85, 3) := by decide +kernel
theorem dX13_goesOn_92 : decode cX13_goesOn 92 = .ok (.invokestatic 91, 3) := by decide +kernel
theorem dX13_goesOn_95 : decode cX13_goesOn 95 = .ok (.ifCond .eq 52, 3) := by decide +kernel
theorem dX13_goesOn_98 : decode cX13_goesOn 98 = .ok (.iload_n 2, 1) := by decide +kernel
theorem dX13_goesOn_99 : decode cX13_goesOn 99 = .ok (.bipush 8, 2) := by decide +kernel
theorem dX13_goesOn_101 : decode cX13_goesOn 101 = .ok (.if_icmp .ge 30, 3) := by decide +kernel
theorem dX13_goesOn_104 : decode cX13_goesOn 104 = .ok (.aload_n 0, 1) := by decide +kernel
theorem dX13_goesOn_105 : decode cX13_goesOn 105 = .ok (.ldc2_w 73, 3) := by decide +kernel
theorem dX13_goesOn_108 : decode cX13_goesOn 108 = .ok (.aload_n 0, 1) := by decide +kernel
theorem dX13_goesOn_109 : decode cX13_goesOn 109 = .ok (.getfield 95, 3) := by decide +kernel
theorem dX13_goesOn_112 : decode cX13_goesOn 112 = .ok (.lmul, 1) := by decide +kernel
theorem dX13_goesOn_113 : decode cX13_goesOn 113 = .ok (.aload_n 0, 1) := by decide +kernel
theorem dX13_goesOn_114 : decode cX13_goesOn 114 = .ok (.aload_n 0, 1) := by decide +kernel
theorem dX13_goesOn_115 : decode cX13_goesOn 115 = .ok (.getfield 82, 3) := by decide +kernel
theorem dX13_goesOn_118 : decode cX13_goesOn 118 = .ok (.invokevirtual 85, 3) := by decide +kernel
theorem dX13_goesOn_121 : decode cX13_goesOn 121 = .ok (.bipush 97, 2) := by decide +kernel
theorem dX13_goesOn_123 : decode cX13_goesOn 123 = .ok (.isub, 1) := by decide +kernel
theorem dX13_goesOn_124 : decode cX13_goesOn 124 = .ok (.iconst 1, 1) := by decide +kernel
theorem dX13_goesOn_125 : decode cX13_goesOn 125 = .ok (.iadd, 1) := by decide +kernel
theorem dX13_goesOn_126 : decode cX13_goesOn 126 = .ok (.i2l, 1) := by decide +kernel
theorem dX13_goesOn_127 : decode cX13_goesOn 127 = .ok (.ladd, 1) := by decide +kernel
theorem dX13_goesOn_128 : decode cX13_goesOn 128 = .ok (.putfield 95, 3) := by decide +kernel
theorem dX13_goesOn_131 : decode cX13_goesOn 131 = .ok (.iinc 2 1, 3) := by decide +kernel
theorem dX13_goesOn_134 : decode cX13_goesOn 134 = .ok (.aload_n 0, 1) := by decide +kernel
theorem dX13_goesOn_135 : decode cX13_goesOn 135 = .ok (.dup, 1) := by decide +kernel
theorem dX13_goesOn_136 : decode cX13_goesOn 136 = .ok (.getfield 82, 3) := by decide +kernel
theorem dX13_goesOn_139 : decode cX13_goesOn 139 = .ok (.iconst 1, 1) := by decide +kernel
theorem dX13_goesOn_140 : decode cX13_goesOn 140 = .ok (.iadd, 1) := by decide +kernel
theorem dX13_goesOn_141 : decode cX13_goesOn 141 = .ok (.putfield 82, 3) := by decide +kernel
theorem dX13_goesOn_144 : decode cX13_goesOn 144 = .ok (.goto (-60), 3) := by decide +kernel
theorem dX13_goesOn_147 : decode cX13_goesOn 147 = .ok (.aload_n 0, 1) := by decide +kernel
theorem dX13_goesOn_148 : decode cX13_goesOn 148 = .ok (.iload_n 2, 1) := by decide +kernel
theorem dX13_goesOn_149 : decode cX13_goesOn 149 = .ok (.putfield 99, 3) := by decide +kernel
theorem dX13_goesOn_152 : decode cX13_goesOn 152 = .ok (.iload_n 2, 1) := by decide +kernel
theorem dX13_goesOn_153 : decode cX13_goesOn 153 = .ok (.bipush 8, 2) := by decide +kernel
theorem dX13_goesOn_155 : decode cX13_goesOn 155 = .ok (.if_icmp .gt 115, 3) := by decide +kernel
theorem dX13_goesOn_158 : decode cX13_goesOn 158 = .ok (.aload_n 0, 1) := by decide +kernel
theorem dX13_goesOn_159 : decode cX13_goesOn 159 = .ok (.iconst 2, 1) := by decide +kernel
theorem dX13_goesOn_160 : decode cX13_goesOn 160 = .ok (.putfield 79, 3) := by decide +kernel
theorem dX13_goesOn_163 : decode cX13_goesOn 163 = .ok (.goto 107, 3) := by decide +kernel
theorem dX13_goesOn_166 : decode cX13_goesOn 166 = .ok (.iload_n 1, 1) := by decide +kernel
theorem dX13_goesOn_167 : decode cX13_goesOn 167 = .ok (.invokestatic 102, 3) := by decide +kernel
theorem dX13_goesOn_170 : decode cX13_goesOn 170 = .ok (.ifCond .eq 79, 3) := by decide +kernel
theorem dX13_goesOn_173 : decode cX13_goesOn 173 = .ok (.aload_n 0, 1) := by decide +kernel
theorem dX13_goesOn_174 : decode cX13_goesOn 174 = .ok (.iconst 0, 1) := by decide +kernel
theorem dX13_goesOn_175 : decode cX13_goesOn 175 = .ok (.putfield 105, 3) := by decide +kernel
theorem dX13_goesOn_178 : decode cX13_goesOn 178 = .ok (.aload_n 0, 1) := by decide +kernel
theorem dX13_goesOn_179 : decode cX13_goesOn 179 = .ok (.aload_n 0, 1) := by decide +kernel
theorem dX13_goesOn_180 : decode cX13_goesOn 180 = .ok (.getfield 82, 3) := by decide +kernel
theorem dX13_goesOn_183 : decode cX13_goesOn 183 = .ok (.invokevirtual 85, 3) := by decide +kernel
theorem dX13_goesOn_186 : decode cX13_goesOn 186 = .ok (.invokestatic 102, 3) := by decide +kernel
theorem dX13_goesOn_189 : decode cX13_goesOn 189 = .ok (.ifCond .eq 47, 3) := by decide +kernel
theorem dX13_goesOn_192 : decode cX13_goesOn 192 = .ok (.iload_n 2, 1) := by decide +kernel
theorem dX13_goesOn_193 : decode cX13_goesOn 193 = .ok (.iconst 3, 1) := by decide +kernel
theorem dX13_goesOn_194 : decode cX13_goesOn 194 = .ok (.if_icmp .ge 26, 3) := by decide +kernel
theorem dX13_goesOn_197 : decode cX13_goesOn 197 = .ok (.aload_n 0, 1) := by decide +kernel
theorem dX13_goesOn_198 : decode cX13_goesOn 198 = .ok (.bipush 10, 2) := by decide +kernel
theorem dX13_goesOn_200 : decode cX13_goesOn 200 = .ok (.aload_n 0, 1) := by decide +kernel
theorem dX13_goesOn_201 : decode cX13_goesOn 201 = .ok (.getfield 105, 3) := by decide +kernel
theorem dX13_goesOn_204 : decode cX13_goesOn 204 = .ok (.imul, 1) := by decide +kernel
theorem dX13_goesOn_205 : decode cX13_goesOn 205 = .ok (.aload_n 0, 1) := by decide +kernel
theorem dX13_goesOn_206 : decode cX13_goesOn 206 = .ok (.aload_n 0, 1) := by decide +kernel
theorem dX13_goesOn_207 : decode cX13_goesOn 207 = .ok (.getfield 82, 3) := by decide +kernel
theorem dX13_goesOn_210 : decode cX13_goesOn 210 = .ok (.invokevirtual 85, 3) := by decide +kernel
theorem dX13_goesOn_213 : decode cX13_goesOn 213 = .ok (.iadd, 1) := by decide +kernel
theorem dX13_goesOn_214 : decode cX13_goesOn 214 = .ok (.bipush 48, 2) := by decide +kernel
theorem dX13_goesOn_216 : decode cX13_goesOn 216 = .ok (.isub, 1) := by decide +kernel
theorem dX13_goesOn_217 : decode cX13_goesOn 217 = .ok (.putfield 105, 3) := by decide +kernel
theorem dX13_goesOn_220 : decode cX13_goesOn 220 = .ok (.iinc 2 1, 3) := by decide +kernel
theorem dX13_goesOn_223 : decode cX13_goesOn 223 = .ok (.aload_n 0, 1) := by decide +kernel
theorem dX13_goesOn_224 : decode cX13_goesOn 224 = .ok (.dup, 1) := by decide +kernel
theorem dX13_goesOn_225 : decode cX13_goesOn 225 = .ok (.getfield 82, 3) := by decide +kernel
theorem dX13_goesOn_228 : decode cX13_goesOn 228 = .ok (.iconst 1, 1) := by decide +kernel
theorem dX13_goesOn_229 : decode cX13_goesOn 229 = .ok (.iadd, 1) := by decide +kernel
theorem dX13_goesOn_230 : decode cX13_goesOn 230 = .ok (.putfield 82, 3) := by decide +kernel
theorem dX13_goesOn_233 : decode cX13_goesOn 233 = .ok (.goto (-55), 3) := by decide +kernel
theorem dX13_goesOn_236 : decode cX13_goesOn 236 = .ok (.iload_n 2, 1) := by decide +kernel
theorem dX13_goesOn_237 : decode cX13_goesOn 237 = .ok (.iconst 3, 1) := by decide +kernel
theorem dX13_goesOn_238 : decode cX13_goesOn 238 = .ok (.if_icmp .gt 32, 3) := by decide +kernel
theorem dX13_goesOn_241 : decode cX13_goesOn 241 = .ok (.aload_n 0, 1) := by decide +kernel
theorem dX13_goesOn_242 : decode cX13_goesOn 242 = .ok (.iconst 3, 1) := by decide +kernel
theorem dX13_goesOn_243 : decode cX13_goesOn 243 = .ok (.putfield 79, 3) := by decide +kernel
theorem dX13_goesOn_246 : decode cX13_goesOn 246 = .ok (.goto 24, 3) := by decide +kernel
theorem dX13_goesOn_249 : decode cX13_goesOn 249 = .ok (.iload_n 1, 1) := by decide +kernel
theorem dX13_goesOn_250 : decode cX13_goesOn 250 = .ok (.bipush 59, 2) := by decide +kernel
theorem dX13_goesOn_252 : decode cX13_goesOn 252 = .ok (.if_icmp .ne 18, 3) := by decide +kernel
theorem dX13_goesOn_255 : decode cX13_goesOn 255 = .ok (.aload_n 0, 1) := by decide +kernel
theorem dX13_goesOn_256 : decode cX13_goesOn 256 = .ok (.iconst 4, 1) := by decide +kernel
theorem dX13_goesOn_257 : decode cX13_goesOn 257 = .ok (.putfield 79, 3) := by decide +kernel
theorem dX13_goesOn_260 : decode cX13_goesOn 260 = .ok (.aload_n 0, 1) := by decide +kernel
theorem dX13_goesOn_261 : decode cX13_goesOn 261 = .ok (.dup, 1) := by decide +kernel
theorem dX13_goesOn_262 : decode cX13_goesOn 262 = .ok (.getfield 82, 3) := by decide +kernel
theorem dX13_goesOn_265 : decode cX13_goesOn 265 = .ok (.iconst 1, 1) := by decide +kernel
theorem dX13_goesOn_266 : decode cX13_goesOn 266 = .ok (.iadd, 1) := by decide +kernel
theorem dX13_goesOn_267 : decode cX13_goesOn 267 = .ok (.putfield 82, 3) := by decide +kernel
theorem dX13_goesOn_270 : decode cX13_goesOn 270 = .ok (.return_, 1) := by decide +kernel
theorem dX13_flaw_0 : decode cX13_flaw 0 = .ok (.aload_n 0, 1) := by decide +kernel
theorem dX13_flaw_1 : decode cX13_flaw 1 = .ok (.getfield 79, 3) := by decide +kernel
theorem dX13_flaw_4 : decode cX13_flaw 4 = .ok (.iconst 5, 1) := by decide +kernel
theorem dX13_flaw_5 : decode cX13_flaw 5 = .ok (.if_icmp .ne 4, 3) := by decide +kernel
theorem dX13_flaw_8 : decode cX13_flaw 8 = .ok (.return_, 1) := by decide +kernel
theorem dX13_flaw_9 : decode cX13_flaw 9 = .ok (.aload_n 0, 1) := by decide +kernel
theorem dX13_flaw_10 : decode cX13_flaw 10 = .ok (.iload_n 1, 1) := by decide +kernel
theorem dX13_flaw_11 : decode cX13_flaw 11 = .ok (.putfield 108, 3) := by decide +kernel
theorem dX13_flaw_14 : decode cX13_flaw 14 = .ok (.aload_n 0, 1) := by decide +kernel
theorem dX13_flaw_15 : decode cX13_flaw 15 = .ok (.aload_n 0, 1) := by decide +kernel
theorem dX13_flaw_16 : decode cX13_flaw 16 = .ok (.getfield 88, 3) := by decide +kernel
theorem dX13_flaw_19 : decode cX13_flaw 19 = .ok (.putfield 111, 3) := by decide +kernel
theorem dX13_flaw_22 : decode cX13_flaw 22 = .ok (.aload_n 0, 1) := by decide +kernel
theorem dX13_flaw_23 : decode cX13_flaw 23 = .ok (.iconst 5, 1) := by decide +kernel
theorem dX13_flaw_24 : decode cX13_flaw 24 = .ok (.putfield 79, 3) := by decide +kernel
theorem dX13_flaw_27 : decode cX13_flaw 27 = .ok (.return_, 1) := by decide +kernel
theorem dX13_isWord_0 : decode cX13_isWord 0 = .ok (.aload_n 0, 1) := by decide +kernel
theorem dX13_isWord_1 : decode cX13_isWord 1 = .ok (.getfield 79, 3) := by decide +kernel
theorem dX13_isWord_4 : decode cX13_isWord 4 = .ok (.iconst 2, 1) := by decide +kernel
theorem dX13_isWord_5 : decode cX13_isWord 5 = .ok (.if_icmp .ne 19, 3) := by decide +kernel
theorem dX13_isWord_8 : decode cX13_isWord 8 = .ok (.aload_n 0, 1) := by decide +kernel
theorem dX13_isWord_9 : decode cX13_isWord 9 = .ok (.getfield 95, 3) := by decide +kernel
theorem dX13_isWord_12 : decode cX13_isWord 12 = .ok (.aload_n 1, 1) := by decide +kernel
theorem dX13_isWord_13 : decode cX13_isWord 13 = .ok (.invokestatic 114, 3) := by decide +kernel
theorem dX13_isWord_16 : decode cX13_isWord 16 = .ok (.lcmp, 1) := by decide +kernel
theorem dX13_isWord_17 : decode cX13_isWord 17 = .ok (.ifCond .ne 7, 3) := by decide +kernel
theorem dX13_isWord_20 : decode cX13_isWord 20 = .ok (.iconst 1, 1) := by decide +kernel
theorem dX13_isWord_21 : decode cX13_isWord 21 = .ok (.goto 4, 3) := by decide +kernel
theorem dX13_isWord_24 : decode cX13_isWord 24 = .ok (.iconst 0, 1) := by decide +kernel
theorem dX13_isWord_25 : decode cX13_isWord 25 = .ok (.ireturn, 1) := by decide +kernel
theorem dX13_eatsSemicolon_0 : decode cX13_eatsSemicolon 0 = .ok (.aload_n 0, 1) := by decide +kernel
theorem dX13_eatsSemicolon_1 : decode cX13_eatsSemicolon 1 = .ok (.getfield 79, 3) := by decide +kernel
theorem dX13_eatsSemicolon_4 : decode cX13_eatsSemicolon 4 = .ok (.iconst 4, 1) := by decide +kernel
theorem dX13_eatsSemicolon_5 : decode cX13_eatsSemicolon 5 = .ok (.if_icmp .ne 7, 3) := by decide +kernel
theorem dX13_eatsSemicolon_8 : decode cX13_eatsSemicolon 8 = .ok (.iconst 1, 1) := by decide +kernel
theorem dX13_eatsSemicolon_9 : decode cX13_eatsSemicolon 9 = .ok (.goto 4, 3) := by decide +kernel
theorem dX13_eatsSemicolon_12 : decode cX13_eatsSemicolon 12 = .ok (.iconst 0, 1) := by decide +kernel
theorem dX13_eatsSemicolon_13 : decode cX13_eatsSemicolon 13 = .ok (.istore_n 1, 1) := by decide +kernel
theorem dX13_eatsSemicolon_14 : decode cX13_eatsSemicolon 14 = .ok (.iload_n 1, 1) := by decide +kernel
theorem dX13_eatsSemicolon_15 : decode cX13_eatsSemicolon 15 = .ok (.ifCond .eq 7, 3) := by decide +kernel
theorem dX13_eatsSemicolon_18 : decode cX13_eatsSemicolon 18 = .ok (.aload_n 0, 1) := by decide +kernel
theorem dX13_eatsSemicolon_19 : decode cX13_eatsSemicolon 19 = .ok (.invokevirtual 118, 3) := by decide +kernel
theorem dX13_eatsSemicolon_22 : decode cX13_eatsSemicolon 22 = .ok (.iload_n 1, 1) := by decide +kernel
theorem dX13_eatsSemicolon_23 : decode cX13_eatsSemicolon 23 = .ok (.ireturn, 1) := by decide +kernel
theorem dX13_needs_0 : decode cX13_needs 0 = .ok (.aload_n 0, 1) := by decide +kernel
theorem dX13_needs_1 : decode cX13_needs 1 = .ok (.aload_n 1, 1) := by decide +kernel
theorem dX13_needs_2 : decode cX13_needs 2 = .ok (.invokevirtual 121, 3) := by decide +kernel
theorem dX13_needs_5 : decode cX13_needs 5 = .ok (.ifCond .ne 8, 3) := by decide +kernel
theorem dX13_needs_8 : decode cX13_needs 8 = .ok (.aload_n 0, 1) := by decide +kernel
theorem dX13_needs_9 : decode cX13_needs 9 = .ok (.iconst 1, 1) := by decide +kernel
theorem dX13_needs_10 : decode cX13_needs 10 = .ok (.invokevirtual 125, 3) := by decide +kernel
theorem dX13_needs_13 : decode cX13_needs 13 = .ok (.aload_n 0, 1) := by decide +kernel
theorem dX13_needs_14 : decode cX13_needs 14 = .ok (.invokevirtual 118, 3) := by decide +kernel
theorem dX13_needs_17 : decode cX13_needs 17 = .ok (.return_, 1) := by decide +kernel
theorem dX13_readWhole_0 : decode cX13_readWhole 0 = .ok (.aload_n 0, 1) := by decide +kernel
theorem dX13_readWhole_1 : decode cX13_readWhole 1 = .ok (.getfield 79, 3) := by decide +kernel
theorem dX13_readWhole_4 : decode cX13_readWhole 4 = .ok (.iconst 3, 1) := by decide +kernel
theorem dX13_readWhole_5 : decode cX13_readWhole 5 = .ok (.if_icmp .eq 11, 3) := by decide +kernel
theorem dX13_readWhole_8 : decode cX13_readWhole 8 = .ok (.aload_n 0, 1) := by decide +kernel
theorem dX13_readWhole_9 : decode cX13_readWhole 9 = .ok (.iconst 1, 1) := by decide +kernel
theorem dX13_readWhole_10 : decode cX13_readWhole 10 = .ok (.invokevirtual 125, 3) := by decide +kernel
theorem dX13_readWhole_13 : decode cX13_readWhole 13 = .ok (.goto 20, 3) := by decide +kernel
theorem dX13_readWhole_16 : decode cX13_readWhole 16 = .ok (.aload_n 0, 1) := by decide +kernel
theorem dX13_readWhole_17 : decode cX13_readWhole 17 = .ok (.getfield 105, 3) := by decide +kernel
theorem dX13_readWhole_20 : decode cX13_readWhole 20 = .ok (.iload_n 1, 1) := by decide +kernel
theorem dX13_readWhole_21 : decode cX13_readWhole 21 = .ok (.iload_n 2, 1) := by decide +kernel
theorem dX13_readWhole_22 : decode cX13_readWhole 22 = .ok (.invokestatic 129, 3) := by decide +kernel
theorem dX13_readWhole_25 : decode cX13_readWhole 25 = .ok (.ifCond .ne 8, 3) := by decide +kernel
theorem dX13_readWhole_28 : decode cX13_readWhole 28 = .ok (.aload_n 0, 1) := by decide +kernel
theorem dX13_readWhole_29 : decode cX13_readWhole 29 = .ok (.iconst 4, 1) := by decide +kernel
theorem dX13_readWhole_30 : decode cX13_readWhole 30 = .ok (.invokevirtual 125, 3) := by decide +kernel
theorem dX13_readWhole_33 : decode cX13_readWhole 33 = .ok (.aload_n 0, 1) := by decide +kernel
theorem dX13_readWhole_34 : decode cX13_readWhole 34 = .ok (.getfield 79, 3) := by decide +kernel
theorem dX13_readWhole_37 : decode cX13_readWhole 37 = .ok (.iconst 5, 1) := by decide +kernel
theorem dX13_readWhole_38 : decode cX13_readWhole 38 = .ok (.if_icmp .ne 7, 3) := by decide +kernel
theorem dX13_readWhole_41 : decode cX13_readWhole 41 = .ok (.iload_n 1, 1) := by decide +kernel
theorem dX13_readWhole_42 : decode cX13_readWhole 42 = .ok (.goto 7, 3) := by decide +kernel
theorem dX13_readWhole_45 : decode cX13_readWhole 45 = .ok (.aload_n 0, 1) := by decide +kernel
theorem dX13_readWhole_46 : decode cX13_readWhole 46 = .ok (.getfield 105, 3) := by decide +kernel
theorem dX13_readWhole_49 : decode cX13_readWhole 49 = .ok (.istore_n 3, 1) := by decide +kernel
theorem dX13_readWhole_50 : decode cX13_readWhole 50 = .ok (.aload_n 0, 1) := by decide +kernel
theorem dX13_readWhole_51 : decode cX13_readWhole 51 = .ok (.invokevirtual 118, 3) := by decide +kernel
theorem dX13_readWhole_54 : decode cX13_readWhole 54 = .ok (.iload_n 3, 1) := by decide +kernel
theorem dX13_readWhole_55 : decode cX13_readWhole 55 = .ok (.ireturn, 1) := by decide +kernel
theorem dX13_readPart_0 : decode cX13_readPart 0 = .ok (.aload_n 0, 1) := by decide +kernel
theorem dX13_readPart_1 : decode cX13_readPart 1 = .ok (.aload_n 1, 1) := by decide +kernel
theorem dX13_readPart_2 : decode cX13_readPart 2 = .ok (.invokevirtual 133, 3) := by decide +kernel
theorem dX13_readPart_5 : decode cX13_readPart 5 = .ok (.aload_n 0, 1) := by decide +kernel
theorem dX13_readPart_6 : decode cX13_readPart 6 = .ok (.iload_n 2, 1) := by decide +kernel
theorem dX13_readPart_7 : decode cX13_readPart 7 = .ok (.iload_n 3, 1) := by decide +kernel
theorem dX13_readPart_8 : decode cX13_readPart 8 = .ok (.invokevirtual 137, 3) := by decide +kernel
theorem dX13_readPart_11 : decode cX13_readPart 11 = .ok (.ireturn, 1) := by decide +kernel
theorem dX13_readLook_0 : decode cX13_readLook 0 = .ok (.aload_n 0, 1) := by decide +kernel
theorem dX13_readLook_1 : decode cX13_readLook 1 = .ok (.getfield 79, 3) := by decide +kernel
theorem dX13_readLook_4 : decode cX13_readLook 4 = .ok (.iconst 2, 1) := by decide +kernel
theorem dX13_readLook_5 : decode cX13_readLook 5 = .ok (.if_icmp .eq 8, 3) := by decide +kernel
theorem dX13_readLook_8 : decode cX13_readLook 8 = .ok (.aload_n 0, 1) := by decide +kernel
theorem dX13_readLook_9 : decode cX13_readLook 9 = .ok (.iconst 1, 1) := by decide +kernel
theorem dX13_readLook_10 : decode cX13_readLook 10 = .ok (.invokevirtual 125, 3) := by decide +kernel
theorem dX13_readLook_13 : decode cX13_readLook 13 = .ok (.iconst 0, 1) := by decide +kernel
theorem dX13_readLook_14 : decode cX13_readLook 14 = .ok (.istore_n 2, 1) := by decide +kernel
theorem dX13_readLook_15 : decode cX13_readLook 15 = .ok (.aload_n 0, 1) := by decide +kernel
theorem dX13_readLook_16 : decode cX13_readLook 16 = .ok (.getfield 99, 3) := by decide +kernel
theorem dX13_readLook_19 : decode cX13_readLook 19 = .ok (.iload_n 1, 1) := by decide +kernel
theorem dX13_readLook_20 : decode cX13_readLook 20 = .ok (.if_icmp .ne 7, 3) := by decide +kernel
theorem dX13_readLook_23 : decode cX13_readLook 23 = .ok (.iconst 1, 1) := by decide +kernel
theorem dX13_readLook_24 : decode cX13_readLook 24 = .ok (.goto 4, 3) := by decide +kernel
theorem dX13_readLook_27 : decode cX13_readLook 27 = .ok (.iconst 0, 1) := by decide +kernel
theorem dX13_readLook_28 : decode cX13_readLook 28 = .ok (.istore_n 3, 1) := by decide +kernel
theorem dX13_readLook_29 : decode cX13_readLook 29 = .ok (.iload_n 1, 1) := by decide +kernel
theorem dX13_readLook_30 : decode cX13_readLook 30 = .ok (.iconst 1, 1) := by decide +kernel
theorem dX13_readLook_31 : decode cX13_readLook 31 = .ok (.isub, 1) := by decide +kernel
theorem dX13_readLook_32 : decode cX13_readLook 32 = .ok (.istore 4, 2) := by decide +kernel
theorem dX13_readLook_34 : decode cX13_readLook 34 = .ok (.iload 4, 2) := by decide +kernel
theorem dX13_readLook_36 : decode cX13_readLook 36 = .ok (.ifCond .lt 58, 3) := by decide +kernel
theorem dX13_readLook_39 : decode cX13_readLook 39 = .ok (.aload_n 0, 1) := by decide +kernel
theorem dX13_readLook_40 : decode cX13_readLook 40 = .ok (.getfield 79, 3) := by decide +kernel
theorem dX13_readLook_43 : decode cX13_readLook 43 = .ok (.iconst 2, 1) := by decide +kernel
theorem dX13_readLook_44 : decode cX13_readLook 44 = .ok (.if_icmp .ne 50, 3) := by decide +kernel
theorem dX13_readLook_47 : decode cX13_readLook 47 = .ok (.iload_n 3, 1) := by decide +kernel
theorem dX13_readLook_48 : decode cX13_readLook 48 = .ok (.ifCond .eq 46, 3) := by decide +kernel
theorem dX13_readLook_51 : decode cX13_readLook 51 = .ok (.aload_n 0, 1) := by decide +kernel
theorem dX13_readLook_52 : decode cX13_readLook 52 = .ok (.getfield 95, 3) := by decide +kernel
theorem dX13_readLook_55 : decode cX13_readLook 55 = .ok (.iconst 5, 1) := by decide +kernel
theorem dX13_readLook_56 : decode cX13_readLook 56 = .ok (.iload 4, 2) := by decide +kernel
theorem dX13_readLook_58 : decode cX13_readLook 58 = .ok (.imul, 1) := by decide +kernel
theorem dX13_readLook_59 : decode cX13_readLook 59 = .ok (.lshr, 1) := by decide +kernel
theorem dX13_readLook_60 : decode cX13_readLook 60 = .ok (.ldc2_w 141, 3) := by decide +kernel
theorem dX13_readLook_63 : decode cX13_readLook 63 = .ok (.land, 1) := by decide +kernel
theorem dX13_readLook_64 : decode cX13_readLook 64 = .ok (.l2i, 1) := by decide +kernel
theorem dX13_readLook_65 : decode cX13_readLook 65 = .ok (.istore 5, 2) := by decide +kernel
theorem dX13_readLook_67 : decode cX13_readLook 67 = .ok (.iload 5, 2) := by decide +kernel
theorem dX13_readLook_69 : decode cX13_readLook 69 = .ok (.iconst 4, 1) := by decide +kernel
theorem dX13_readLook_70 : decode cX13_readLook 70 = .ok (.if_icmp .gt 7, 3) := by decide +kernel
theorem dX13_readLook_73 : decode cX13_readLook 73 = .ok (.iconst 1, 1) := by decide +kernel
theorem dX13_readLook_74 : decode cX13_readLook 74 = .ok (.goto 4, 3) := by decide +kernel
theorem dX13_readLook_77 : decode cX13_readLook 77 = .ok (.iconst 0, 1) := by decide +kernel
theorem dX13_readLook_78 : decode cX13_readLook 78 = .ok (.istore_n 3, 1) := by decide +kernel
theorem dX13_readLook_79 : decode cX13_readLook 79 = .ok (.iconst 4, 1) := by decide +kernel
theorem dX13_readLook_80 : decode cX13_readLook 80 = .ok (.iload_n 2, 1) := by decide +kernel
theorem dX13_readLook_81 : decode cX13_readLook 81 = .ok (.imul, 1) := by decide +kernel
theorem dX13_readLook_82 : decode cX13_readLook 82 = .ok (.iload 5, 2) := by decide +kernel
theorem dX13_readLook_84 : decode cX13_readLook 84 = .ok (.iadd, 1) := by decide +kernel
theorem dX13_readLook_85 : decode cX13_readLook 85 = .ok (.iconst 1, 1) := by decide +kernel
theorem dX13_readLook_86 : decode cX13_readLook 86 = .ok (.isub, 1) := by decide +kernel
theorem dX13_readLook_87 : decode cX13_readLook 87 = .ok (.istore_n 2, 1) := by decide +kernel
theorem dX13_readLook_88 : decode cX13_readLook 88 = .ok (.iinc 4 (-1), 3) := by decide +kernel
theorem dX13_readLook_91 : decode cX13_readLook 91 = .ok (.goto (-57), 3) := by decide +kernel
theorem dX13_readLook_94 : decode cX13_readLook 94 = .ok (.iload_n 3, 1) := by decide +kernel
theorem dX13_readLook_95 : decode cX13_readLook 95 = .ok (.ifCond .ne 9, 3) := by decide +kernel
theorem dX13_readLook_98 : decode cX13_readLook 98 = .ok (.aload_n 0, 1) := by decide +kernel
theorem dX13_readLook_99 : decode cX13_readLook 99 = .ok (.bipush 7, 2) := by decide +kernel
theorem dX13_readLook_101 : decode cX13_readLook 101 = .ok (.invokevirtual 125, 3) := by decide +kernel
theorem dX13_readLook_104 : decode cX13_readLook 104 = .ok (.aload_n 0, 1) := by decide +kernel
theorem dX13_readLook_105 : decode cX13_readLook 105 = .ok (.invokevirtual 118, 3) := by decide +kernel
theorem dX13_readLook_108 : decode cX13_readLook 108 = .ok (.iload_n 2, 1) := by decide +kernel
theorem dX13_readLook_109 : decode cX13_readLook 109 = .ok (.ireturn, 1) := by decide +kernel
theorem dX13_isName_0 : decode cX13_isName 0 = .ok (.aload_n 0, 1) := by decide +kernel
theorem dX13_isName_1 : decode cX13_isName 1 = .ok (.getfield 79, 3) := by decide +kernel
theorem dX13_isName_4 : decode cX13_isName 4 = .ok (.iconst 2, 1) := by decide +kernel
theorem dX13_isName_5 : decode cX13_isName 5 = .ok (.if_icmp .ne 39, 3) := by decide +kernel
theorem dX13_isName_8 : decode cX13_isName 8 = .ok (.aload_n 0, 1) := by decide +kernel
theorem dX13_isName_9 : decode cX13_isName 9 = .ok (.ldc 143, 2) := by decide +kernel
theorem dX13_isName_11 : decode cX13_isName 11 = .ok (.invokevirtual 121, 3) := by decide +kernel
theorem dX13_isName_14 : decode cX13_isName 14 = .ok (.ifCond .ne 30, 3) := by decide +kernel
theorem dX13_isName_17 : decode cX13_isName 17 = .ok (.aload_n 0, 1) := by decide +kernel
theorem dX13_isName_18 : decode cX13_isName 18 = .ok (.ldc 145, 2) := by decide +kernel
theorem dX13_isName_20 : decode cX13_isName 20 = .ok (.invokevirtual 121, 3) := by decide +kernel
theorem dX13_isName_23 : decode cX13_isName 23 = .ok (.ifCond .ne 21, 3) := by decide +kernel
theorem dX13_isName_26 : decode cX13_isName 26 = .ok (.aload_n 0, 1) := by decide +kernel
theorem dX13_isName_27 : decode cX13_isName 27 = .ok (.ldc 147, 2) := by decide +kernel
theorem dX13_isName_29 : decode cX13_isName 29 = .ok (.invokevirtual 121, 3) := by decide +kernel
theorem dX13_isName_32 : decode cX13_isName 32 = .ok (.ifCond .ne 12, 3) := by decide +kernel
theorem dX13_isName_35 : decode cX13_isName 35 = .ok (.aload_n 0, 1) := by decide +kernel
theorem dX13_isName_36 : decode cX13_isName 36 = .ok (.ldc 149, 2) := by decide +kernel
theorem dX13_isName_38 : decode cX13_isName 38 = .ok (.invokevirtual 121, 3) := by decide +kernel
theorem dX13_isName_41 : decode cX13_isName 41 = .ok (.ifCond .eq 5, 3) := by decide +kernel
theorem dX13_isName_44 : decode cX13_isName 44 = .ok (.iconst 0, 1) := by decide +kernel
theorem dX13_isName_45 : decode cX13_isName 45 = .ok (.ireturn, 1) := by decide +kernel
theorem dX13_isName_46 : decode cX13_isName 46 = .ok (.aload_n 0, 1) := by decide +kernel
theorem dX13_isName_47 : decode cX13_isName 47 = .ok (.ldc 151, 2) := by decide +kernel
theorem dX13_isName_49 : decode cX13_isName 49 = .ok (.invokevirtual 121, 3) := by decide +kernel
theorem dX13_isName_52 : decode cX13_isName 52 = .ok (.ifCond .ne 25, 3) := by decide +kernel
theorem dX13_isName_55 : decode cX13_isName 55 = .ok (.aload_n 0, 1) := by decide +kernel
theorem dX13_isName_56 : decode cX13_isName 56 = .ok (.ldc 153, 2) := by decide +kernel
theorem dX13_isName_58 : decode cX13_isName 58 = .ok (.invokevirtual 121, 3) := by decide +kernel
theorem dX13_isName_61 : decode cX13_isName 61 = .ok (.ifCond .ne 16, 3) := by decide +kernel
theorem dX13_isName_64 : decode cX13_isName 64 = .ok (.aload_n 0, 1) := by decide +kernel
theorem dX13_isName_65 : decode cX13_isName 65 = .ok (.ldc 155, 2) := by decide +kernel
theorem dX13_isName_67 : decode cX13_isName 67 = .ok (.invokevirtual 121, 3) := by decide +kernel
theorem dX13_isName_70 : decode cX13_isName 70 = .ok (.ifCond .ne 7, 3) := by decide +kernel
theorem dX13_isName_73 : decode cX13_isName 73 = .ok (.iconst 1, 1) := by decide +kernel
theorem dX13_isName_74 : decode cX13_isName 74 = .ok (.goto 4, 3) := by decide +kernel
theorem dX13_isName_77 : decode cX13_isName 77 = .ok (.iconst 0, 1) := by decide +kernel
theorem dX13_isName_78 : decode cX13_isName 78 = .ok (.ireturn, 1) := by decide +kernel
theorem dX13_lineBegins_0 : decode cX13_lineBegins 0 = .ok (.iload_n 1, 1) := by decide +kernel
theorem dX13_lineBegins_1 : decode cX13_lineBegins 1 = .ok (.iload_n 2, 1) := by decide +kernel
theorem dX13_lineBegins_2 : decode cX13_lineBegins 2 = .ok (.if_icmp .ne 8, 3) := by decide +kernel
theorem dX13_lineBegins_5 : decode cX13_lineBegins 5 = .ok (.aload_n 0, 1) := by decide +kernel
theorem dX13_lineBegins_6 : decode cX13_lineBegins 6 = .ok (.iconst 5, 1) := by decide +kernel
theorem dX13_lineBegins_7 : decode cX13_lineBegins 7 = .ok (.invokevirtual 125, 3) := by decide +kernel
theorem dX13_lineBegins_10 : decode cX13_lineBegins 10 = .ok (.aload_n 0, 1) := by decide +kernel
theorem dX13_lineBegins_11 : decode cX13_lineBegins 11 = .ok (.getfield 157, 3) := by decide +kernel
theorem dX13_lineBegins_14 : decode cX13_lineBegins 14 = .ok (.getfield 161, 3) := by decide +kernel
theorem dX13_lineBegins_17 : decode cX13_lineBegins 17 = .ok (.ifCond .ne 9, 3) := by decide +kernel
theorem dX13_lineBegins_20 : decode cX13_lineBegins 20 = .ok (.aload_n 0, 1) := by decide +kernel
theorem dX13_lineBegins_21 : decode cX13_lineBegins 21 = .ok (.bipush 6, 2) := by decide +kernel
theorem dX13_lineBegins_23 : decode cX13_lineBegins 23 = .ok (.invokevirtual 125, 3) := by decide +kernel
theorem dX13_lineBegins_26 : decode cX13_lineBegins 26 = .ok (.aload_n 0, 1) := by decide +kernel
theorem dX13_lineBegins_27 : decode cX13_lineBegins 27 = .ok (.invokevirtual 118, 3) := by decide +kernel
theorem dX13_lineBegins_30 : decode cX13_lineBegins 30 = .ok (.return_, 1) := by decide +kernel
theorem dX13_readFresh_0 : decode cX13_readFresh 0 = .ok (.aload_n 0, 1) := by decide +kernel
theorem dX13_readFresh_1 : decode cX13_readFresh 1 = .ok (.invokevirtual 166, 3) := by decide +kernel
theorem dX13_readFresh_4 : decode cX13_readFresh 4 = .ok (.ifCond .ne 8, 3) := by decide +kernel
theorem dX13_readFresh_7 : decode cX13_readFresh 7 = .ok (.aload_n 0, 1) := by decide +kernel
theorem dX13_readFresh_8 : decode cX13_readFresh 8 = .ok (.iconst 1, 1) := by decide +kernel
theorem dX13_readFresh_9 : decode cX13_readFresh 9 = .ok (.invokevirtual 125, 3) := by decide +kernel
theorem dX13_readFresh_12 : decode cX13_readFresh 12 = .ok (.aload_n 0, 1) := by decide +kernel
theorem dX13_readFresh_13 : decode cX13_readFresh 13 = .ok (.getfield 157, 3) := by decide +kernel
theorem dX13_readFresh_16 : decode cX13_readFresh 16 = .ok (.aload_n 0, 1) := by decide +kernel
theorem dX13_readFresh_17 : decode cX13_readFresh 17 = .ok (.getfield 95, 3) := by decide +kernel
theorem dX13_readFresh_20 : decode cX13_readFresh 20 = .ok (.invokevirtual 170, 3) := by decide +kernel
theorem dX13_readFresh_23 : decode cX13_readFresh 23 = .ok (.iconst (-1), 1) := by decide +kernel
theorem dX13_readFresh_24 : decode cX13_readFresh 24 = .ok (.if_icmp .eq 8, 3) := by decide +kernel
theorem dX13_readFresh_27 : decode cX13_readFresh 27 = .ok (.aload_n 0, 1) := by decide +kernel
theorem dX13_readFresh_28 : decode cX13_readFresh 28 = .ok (.iconst 3, 1) := by decide +kernel
theorem dX13_readFresh_29 : decode cX13_readFresh 29 = .ok (.invokevirtual 125, 3) := by decide +kernel
theorem dX13_readFresh_32 : decode cX13_readFresh 32 = .ok (.aload_n 0, 1) := by decide +kernel
theorem dX13_readFresh_33 : decode cX13_readFresh 33 = .ok (.getfield 95, 3) := by decide +kernel
theorem dX13_readFresh_36 : decode cX13_readFresh 36 = .ok (.lstore_n 1, 1) := by decide +kernel
theorem dX13_readFresh_37 : decode cX13_readFresh 37 = .ok (.aload_n 0, 1) := by decide +kernel
theorem dX13_readFresh_38 : decode cX13_readFresh 38 = .ok (.invokevirtual 118, 3) := by decide +kernel
theorem dX13_readFresh_41 : decode cX13_readFresh 41 = .ok (.lload_n 1, 1) := by decide +kernel
theorem dX13_readFresh_42 : decode cX13_readFresh 42 = .ok (.lreturn, 1) := by decide +kernel
theorem dX13_names_0 : decode cX13_names 0 = .ok (.aload_n 0, 1) := by decide +kernel
theorem dX13_names_1 : decode cX13_names 1 = .ok (.getfield 157, 3) := by decide +kernel
theorem dX13_names_4 : decode cX13_names 4 = .ok (.getfield 174, 3) := by decide +kernel
theorem dX13_names_7 : decode cX13_names 7 = .ok (.aload_n 0, 1) := by decide +kernel
theorem dX13_names_8 : decode cX13_names 8 = .ok (.getfield 157, 3) := by decide +kernel
theorem dX13_names_11 : decode cX13_names 11 = .ok (.getfield 178, 3) := by decide +kernel
theorem dX13_names_14 : decode cX13_names 14 = .ok (.lload_n 1, 1) := by decide +kernel
theorem dX13_names_15 : decode cX13_names 15 = .ok (.lastore, 1) := by decide +kernel
theorem dX13_names_16 : decode cX13_names 16 = .ok (.aload_n 0, 1) := by decide +kernel
theorem dX13_names_17 : decode cX13_names 17 = .ok (.getfield 157, 3) := by decide +kernel
theorem dX13_names_20 : decode cX13_names 20 = .ok (.getfield 181, 3) := by decide +kernel
theorem dX13_names_23 : decode cX13_names 23 = .ok (.aload_n 0, 1) := by decide +kernel
theorem dX13_names_24 : decode cX13_names 24 = .ok (.getfield 157, 3) := by decide +kernel
theorem dX13_names_27 : decode cX13_names 27 = .ok (.getfield 178, 3) := by decide +kernel
theorem dX13_names_30 : decode cX13_names 30 = .ok (.iload_n 3, 1) := by decide +kernel
theorem dX13_names_31 : decode cX13_names 31 = .ok (.iastore, 1) := by decide +kernel
theorem dX13_names_32 : decode cX13_names 32 = .ok (.aload_n 0, 1) := by decide +kernel
theorem dX13_names_33 : decode cX13_names 33 = .ok (.getfield 157, 3) := by decide +kernel
theorem dX13_names_36 : decode cX13_names 36 = .ok (.getfield 184, 3) := by decide +kernel
theorem dX13_names_39 : decode cX13_names 39 = .ok (.aload_n 0, 1) := by decide +kernel
theorem dX13_names_40 : decode cX13_names 40 = .ok (.getfield 157, 3) := by decide +kernel
theorem dX13_names_43 : decode cX13_names 43 = .ok (.getfield 178, 3) := by decide +kernel
theorem dX13_names_46 : decode cX13_names 46 = .ok (.iload 4, 2) := by decide +kernel
theorem dX13_names_48 : decode cX13_names 48 = .ok (.iastore, 1) := by decide +kernel
theorem dX13_names_49 : decode cX13_names 49 = .ok (.aload_n 0, 1) := by decide +kernel
theorem dX13_names_50 : decode cX13_names 50 = .ok (.getfield 157, 3) := by decide +kernel
theorem dX13_names_53 : decode cX13_names 53 = .ok (.dup, 1) := by decide +kernel
theorem dX13_names_54 : decode cX13_names 54 = .ok (.getfield 178, 3) := by decide +kernel
theorem dX13_names_57 : decode cX13_names 57 = .ok (.iconst 1, 1) := by decide +kernel
theorem dX13_names_58 : decode cX13_names 58 = .ok (.iadd, 1) := by decide +kernel
theorem dX13_names_59 : decode cX13_names 59 = .ok (.putfield 178, 3) := by decide +kernel
theorem dX13_names_62 : decode cX13_names 62 = .ok (.return_, 1) := by decide +kernel
theorem dX13_knownOne_0 : decode cX13_knownOne 0 = .ok (.aload_n 0, 1) := by decide +kernel
theorem dX13_knownOne_1 : decode cX13_knownOne 1 = .ok (.invokevirtual 166, 3) := by decide +kernel
theorem dX13_knownOne_4 : decode cX13_knownOne 4 = .ok (.ifCond .ne 8, 3) := by decide +kernel
theorem dX13_knownOne_7 : decode cX13_knownOne 7 = .ok (.aload_n 0, 1) := by decide +kernel
theorem dX13_knownOne_8 : decode cX13_knownOne 8 = .ok (.iconst 1, 1) := by decide +kernel
theorem dX13_knownOne_9 : decode cX13_knownOne 9 = .ok (.invokevirtual 125, 3) := by decide +kernel
theorem dX13_knownOne_12 : decode cX13_knownOne 12 = .ok (.aload_n 0, 1) := by decide +kernel
theorem dX13_knownOne_13 : decode cX13_knownOne 13 = .ok (.getfield 157, 3) := by decide +kernel
theorem dX13_knownOne_16 : decode cX13_knownOne 16 = .ok (.aload_n 0, 1) := by decide +kernel
theorem dX13_knownOne_17 : decode cX13_knownOne 17 = .ok (.getfield 95, 3) := by decide +kernel
theorem dX13_knownOne_20 : decode cX13_knownOne 20 = .ok (.invokevirtual 170, 3) := by decide +kernel
theorem dX13_knownOne_23 : decode cX13_knownOne 23 = .ok (.istore_n 2, 1) := by decide +kernel
theorem dX13_knownOne_24 : decode cX13_knownOne 24 = .ok (.iload_n 2, 1) := by decide +kernel
theorem dX13_knownOne_25 : decode cX13_knownOne 25 = .ok (.iconst (-1), 1) := by decide +kernel
theorem dX13_knownOne_26 : decode cX13_knownOne 26 = .ok (.if_icmp .eq 16, 3) := by decide +kernel
theorem dX13_knownOne_29 : decode cX13_knownOne 29 = .ok (.aload_n 0, 1) := by decide +kernel
theorem dX13_knownOne_30 : decode cX13_knownOne 30 = .ok (.getfield 157, 3) := by decide +kernel
theorem dX13_knownOne_33 : decode cX13_knownOne 33 = .ok (.getfield 181, 3) := by decide +kernel
theorem dX13_knownOne_36 : decode cX13_knownOne 36 = .ok (.iload_n 2, 1) := by decide +kernel
theorem dX13_knownOne_37 : decode cX13_knownOne 37 = .ok (.iaload, 1) := by decide +kernel
theorem dX13_knownOne_38 : decode cX13_knownOne 38 = .ok (.iload_n 1, 1) := by decide +kernel
theorem dX13_knownOne_39 : decode cX13_knownOne 39 = .ok (.if_icmp .eq 8, 3) := by decide +kernel
theorem dX13_knownOne_42 : decode cX13_knownOne 42 = .ok (.aload_n 0, 1) := by decide +kernel
theorem dX13_knownOne_43 : decode cX13_knownOne 43 = .ok (.iconst 2, 1) := by decide +kernel
theorem dX13_knownOne_44 : decode cX13_knownOne 44 = .ok (.invokevirtual 125, 3) := by decide +kernel
theorem dX13_knownOne_47 : decode cX13_knownOne 47 = .ok (.aload_n 0, 1) := by decide +kernel
theorem dX13_knownOne_48 : decode cX13_knownOne 48 = .ok (.getfield 79, 3) := by decide +kernel
theorem dX13_knownOne_51 : decode cX13_knownOne 51 = .ok (.iconst 5, 1) := by decide +kernel
theorem dX13_knownOne_52 : decode cX13_knownOne 52 = .ok (.if_icmp .ne 7, 3) := by decide +kernel
theorem dX13_knownOne_55 : decode cX13_knownOne 55 = .ok (.iconst 0, 1) := by decide +kernel
theorem dX13_knownOne_56 : decode cX13_knownOne 56 = .ok (.goto 12, 3) := by decide +kernel
theorem dX13_knownOne_59 : decode cX13_knownOne 59 = .ok (.aload_n 0, 1) := by decide +kernel
theorem dX13_knownOne_60 : decode cX13_knownOne 60 = .ok (.getfield 157, 3) := by decide +kernel
theorem dX13_knownOne_63 : decode cX13_knownOne 63 = .ok (.getfield 184, 3) := by decide +kernel
theorem dX13_knownOne_66 : decode cX13_knownOne 66 = .ok (.iload_n 2, 1) := by decide +kernel
theorem dX13_knownOne_67 : decode cX13_knownOne 67 = .ok (.iaload, 1) := by decide +kernel
theorem dX13_knownOne_68 : decode cX13_knownOne 68 = .ok (.ireturn, 1) := by decide +kernel
theorem dX13_readKnown_0 : decode cX13_readKnown 0 = .ok (.aload_n 0, 1) := by decide +kernel
theorem dX13_readKnown_1 : decode cX13_readKnown 1 = .ok (.iload_n 1, 1) := by decide +kernel
theorem dX13_readKnown_2 : decode cX13_readKnown 2 = .ok (.invokevirtual 187, 3) := by decide +kernel
theorem dX13_readKnown_5 : decode cX13_readKnown 5 = .ok (.istore_n 2, 1) := by decide +kernel
theorem dX13_readKnown_6 : decode cX13_readKnown 6 = .ok (.aload_n 0, 1) := by decide +kernel
theorem dX13_readKnown_7 : decode cX13_readKnown 7 = .ok (.invokevirtual 118, 3) := by decide +kernel
theorem dX13_readKnown_10 : decode cX13_readKnown 10 = .ok (.iload_n 2, 1) := by decide +kernel
theorem dX13_readKnown_11 : decode cX13_readKnown 11 = .ok (.ireturn, 1) := by decide +kernel
theorem dX13_readAll_0 : decode cX13_readAll 0 = .ok (.iconst 1, 1) := by decide +kernel
theorem dX13_readAll_1 : decode cX13_readAll 1 = .ok (.istore_n 1, 1) := by decide +kernel
theorem dX13_readAll_2 : decode cX13_readAll 2 = .ok (.iload_n 1, 1) := by decide +kernel
theorem dX13_readAll_3 : decode cX13_readAll 3 = .ok (.ifCond .eq 15, 3) := by decide +kernel
theorem dX13_readAll_6 : decode cX13_readAll 6 = .ok (.aload_n 0, 1) := by decide +kernel
theorem dX13_readAll_7 : decode cX13_readAll 7 = .ok (.invokevirtual 190, 3) := by decide +kernel
theorem dX13_readAll_10 : decode cX13_readAll 10 = .ok (.aload_n 0, 1) := by decide +kernel
theorem dX13_readAll_11 : decode cX13_readAll 11 = .ok (.invokevirtual 193, 3) := by decide +kernel
theorem dX13_readAll_14 : decode cX13_readAll 14 = .ok (.istore_n 1, 1) := by decide +kernel
theorem dX13_readAll_15 : decode cX13_readAll 15 = .ok (.goto (-13), 3) := by decide +kernel
theorem dX13_readAll_18 : decode cX13_readAll 18 = .ok (.aload_n 0, 1) := by decide +kernel
theorem dX13_readAll_19 : decode cX13_readAll 19 = .ok (.getfield 79, 3) := by decide +kernel
theorem dX13_readAll_22 : decode cX13_readAll 22 = .ok (.iconst 1, 1) := by decide +kernel
theorem dX13_readAll_23 : decode cX13_readAll 23 = .ok (.if_icmp .eq 8, 3) := by decide +kernel
theorem dX13_readAll_26 : decode cX13_readAll 26 = .ok (.aload_n 0, 1) := by decide +kernel
theorem dX13_readAll_27 : decode cX13_readAll 27 = .ok (.iconst 1, 1) := by decide +kernel
theorem dX13_readAll_28 : decode cX13_readAll 28 = .ok (.invokevirtual 125, 3) := by decide +kernel
theorem dX13_readAll_31 : decode cX13_readAll 31 = .ok (.aload_n 0, 1) := by decide +kernel
theorem dX13_readAll_32 : decode cX13_readAll 32 = .ok (.getfield 157, 3) := by decide +kernel
theorem dX13_readAll_35 : decode cX13_readAll 35 = .ok (.getfield 196, 3) := by decide +kernel
theorem dX13_readAll_38 : decode cX13_readAll 38 = .ok (.ifCond .eq 13, 3) := by decide +kernel
theorem dX13_readAll_41 : decode cX13_readAll 41 = .ok (.aload_n 0, 1) := by decide +kernel
theorem dX13_readAll_42 : decode cX13_readAll 42 = .ok (.getfield 157, 3) := by decide +kernel
theorem dX13_readAll_45 : decode cX13_readAll 45 = .ok (.getfield 199, 3) := by decide +kernel
theorem dX13_readAll_48 : decode cX13_readAll 48 = .ok (.ifCond .ne 9, 3) := by decide +kernel
theorem dX13_readAll_51 : decode cX13_readAll 51 = .ok (.aload_n 0, 1) := by decide +kernel
theorem dX13_readAll_52 : decode cX13_readAll 52 = .ok (.bipush 6, 2) := by decide +kernel
theorem dX13_readAll_54 : decode cX13_readAll 54 = .ok (.invokevirtual 125, 3) := by decide +kernel
theorem dX13_readAll_57 : decode cX13_readAll 57 = .ok (.return_, 1) := by decide +kernel
theorem dX13_readLine_0 : decode cX13_readLine 0 = .ok (.aload_n 0, 1) := by decide +kernel
theorem dX13_readLine_1 : decode cX13_readLine 1 = .ok (.ldc 143, 2) := by decide +kernel
theorem dX13_readLine_3 : decode cX13_readLine 3 = .ok (.invokevirtual 121, 3) := by decide +kernel
theorem dX13_readLine_6 : decode cX13_readLine 6 = .ok (.ifCond .eq 10, 3) := by decide +kernel
theorem dX13_readLine_9 : decode cX13_readLine 9 = .ok (.aload_n 0, 1) := by decide +kernel
theorem dX13_readLine_10 : decode cX13_readLine 10 = .ok (.invokevirtual 202, 3) := by decide +kernel
theorem dX13_readLine_13 : decode cX13_readLine 13 = .ok (.goto 104, 3) := by decide +kernel
theorem dX13_readLine_16 : decode cX13_readLine 16 = .ok (.aload_n 0, 1) := by decide +kernel
theorem dX13_readLine_17 : decode cX13_readLine 17 = .ok (.ldc 145, 2) := by decide +kernel
theorem dX13_readLine_19 : decode cX13_readLine 19 = .ok (.invokevirtual 121, 3) := by decide +kernel
theorem dX13_readLine_22 : decode cX13_readLine 22 = .ok (.ifCond .eq 10, 3) := by decide +kernel
theorem dX13_readLine_25 : decode cX13_readLine 25 = .ok (.aload_n 0, 1) := by decide +kernel
theorem dX13_readLine_26 : decode cX13_readLine 26 = .ok (.invokevirtual 205, 3) := by decide +kernel
theorem dX13_readLine_29 : decode cX13_readLine 29 = .ok (.goto 88, 3) := by decide +kernel
theorem dX13_readLine_32 : decode cX13_readLine 32 = .ok (.aload_n 0, 1) := by decide +kernel
theorem dX13_readLine_33 : decode cX13_readLine 33 = .ok (.ldc 147, 2) := by decide +kernel
theorem dX13_readLine_35 : decode cX13_readLine 35 = .ok (.invokevirtual 121, 3) := by decide +kernel
theorem dX13_readLine_38 : decode cX13_readLine 38 = .ok (.ifCond .eq 10, 3) := by decide +kernel
theorem dX13_readLine_41 : decode cX13_readLine 41 = .ok (.aload_n 0, 1) := by decide +kernel
theorem dX13_readLine_42 : decode cX13_readLine 42 = .ok (.invokevirtual 208, 3) := by decide +kernel
theorem dX13_readLine_45 : decode cX13_readLine 45 = .ok (.goto 72, 3) := by decide +kernel
theorem dX13_readLine_48 : decode cX13_readLine 48 = .ok (.aload_n 0, 1) := by decide +kernel
theorem dX13_readLine_49 : decode cX13_readLine 49 = .ok (.ldc 149, 2) := by decide +kernel
theorem dX13_readLine_51 : decode cX13_readLine 51 = .ok (.invokevirtual 121, 3) := by decide +kernel
theorem dX13_readLine_54 : decode cX13_readLine 54 = .ok (.ifCond .eq 10, 3) := by decide +kernel
theorem dX13_readLine_57 : decode cX13_readLine 57 = .ok (.aload_n 0, 1) := by decide +kernel
theorem dX13_readLine_58 : decode cX13_readLine 58 = .ok (.invokevirtual 211, 3) := by decide +kernel
theorem dX13_readLine_61 : decode cX13_readLine 61 = .ok (.goto 56, 3) := by decide +kernel
theorem dX13_readLine_64 : decode cX13_readLine 64 = .ok (.aload_n 0, 1) := by decide +kernel
theorem dX13_readLine_65 : decode cX13_readLine 65 = .ok (.ldc 151, 2) := by decide +kernel
theorem dX13_readLine_67 : decode cX13_readLine 67 = .ok (.invokevirtual 121, 3) := by decide +kernel
theorem dX13_readLine_70 : decode cX13_readLine 70 = .ok (.ifCond .eq 10, 3) := by decide +kernel
theorem dX13_readLine_73 : decode cX13_readLine 73 = .ok (.aload_n 0, 1) := by decide +kernel
theorem dX13_readLine_74 : decode cX13_readLine 74 = .ok (.invokevirtual 214, 3) := by decide +kernel
theorem dX13_readLine_77 : decode cX13_readLine 77 = .ok (.goto 40, 3) := by decide +kernel
theorem dX13_readLine_80 : decode cX13_readLine 80 = .ok (.aload_n 0, 1) := by decide +kernel
theorem dX13_readLine_81 : decode cX13_readLine 81 = .ok (.ldc 153, 2) := by decide +kernel
theorem dX13_readLine_83 : decode cX13_readLine 83 = .ok (.invokevirtual 121, 3) := by decide +kernel
theorem dX13_readLine_86 : decode cX13_readLine 86 = .ok (.ifCond .eq 10, 3) := by decide +kernel
theorem dX13_readLine_89 : decode cX13_readLine 89 = .ok (.aload_n 0, 1) := by decide +kernel
theorem dX13_readLine_90 : decode cX13_readLine 90 = .ok (.invokevirtual 217, 3) := by decide +kernel
theorem dX13_readLine_93 : decode cX13_readLine 93 = .ok (.goto 24, 3) := by decide +kernel
theorem dX13_readLine_96 : decode cX13_readLine 96 = .ok (.aload_n 0, 1) := by decide +kernel
theorem dX13_readLine_97 : decode cX13_readLine 97 = .ok (.ldc 155, 2) := by decide +kernel
theorem dX13_readLine_99 : decode cX13_readLine 99 = .ok (.invokevirtual 121, 3) := by decide +kernel
theorem dX13_readLine_102 : decode cX13_readLine 102 = .ok (.ifCond .eq 10, 3) := by decide +kernel
theorem dX13_readLine_105 : decode cX13_readLine 105 = .ok (.aload_n 0, 1) := by decide +kernel
theorem dX13_readLine_106 : decode cX13_readLine 106 = .ok (.invokevirtual 220, 3) := by decide +kernel
theorem dX13_readLine_109 : decode cX13_readLine 109 = .ok (.goto 8, 3) := by decide +kernel
theorem dX13_readLine_112 : decode cX13_readLine 112 = .ok (.aload_n 0, 1) := by decide +kernel
theorem dX13_readLine_113 : decode cX13_readLine 113 = .ok (.iconst 1, 1) := by decide +kernel
theorem dX13_readLine_114 : decode cX13_readLine 114 = .ok (.invokevirtual 125, 3) := by decide +kernel
theorem dX13_readLine_117 : decode cX13_readLine 117 = .ok (.return_, 1) := by decide +kernel
theorem dX13_readTown_0 : decode cX13_readTown 0 = .ok (.aload_n 0, 1) := by decide +kernel
theorem dX13_readTown_1 : decode cX13_readTown 1 = .ok (.getfield 157, 3) := by decide +kernel
theorem dX13_readTown_4 : decode cX13_readTown 4 = .ok (.getfield 161, 3) := by decide +kernel
theorem dX13_readTown_7 : decode cX13_readTown 7 = .ok (.ifCond .le 8, 3) := by decide +kernel
theorem dX13_readTown_10 : decode cX13_readTown 10 = .ok (.aload_n 0, 1) := by decide +kernel
theorem dX13_readTown_11 : decode cX13_readTown 11 = .ok (.iconst 3, 1) := by decide +kernel
theorem dX13_readTown_12 : decode cX13_readTown 12 = .ok (.invokevirtual 125, 3) := by decide +kernel
theorem dX13_readTown_15 : decode cX13_readTown 15 = .ok (.aload_n 0, 1) := by decide +kernel
theorem dX13_readTown_16 : decode cX13_readTown 16 = .ok (.invokevirtual 118, 3) := by decide +kernel
theorem dX13_readTown_19 : decode cX13_readTown 19 = .ok (.aload_n 0, 1) := by decide +kernel
theorem dX13_readTown_20 : decode cX13_readTown 20 = .ok (.ldc 223, 2) := by decide +kernel
theorem dX13_readTown_22 : decode cX13_readTown 22 = .ok (.iconst 4, 1) := by decide +kernel
theorem dX13_readTown_23 : decode cX13_readTown 23 = .ok (.bipush 11, 2) := by decide +kernel
theorem dX13_readTown_25 : decode cX13_readTown 25 = .ok (.invokevirtual 225, 3) := by decide +kernel
theorem dX13_readTown_28 : decode cX13_readTown 28 = .ok (.istore_n 1, 1) := by decide +kernel
theorem dX13_readTown_29 : decode cX13_readTown 29 = .ok (.aload_n 0, 1) := by decide +kernel
theorem dX13_readTown_30 : decode cX13_readTown 30 = .ok (.ldc 229, 2) := by decide +kernel
theorem dX13_readTown_32 : decode cX13_readTown 32 = .ok (.bipush 12, 2) := by decide +kernel
theorem dX13_readTown_34 : decode cX13_readTown 34 = .ok (.bipush 22, 2) := by decide +kernel
theorem dX13_readTown_36 : decode cX13_readTown 36 = .ok (.invokevirtual 225, 3) := by decide +kernel
theorem dX13_readTown_39 : decode cX13_readTown 39 = .ok (.istore_n 2, 1) := by decide +kernel
theorem dX13_readTown_40 : decode cX13_readTown 40 = .ok (.aload_n 0, 1) := by decide +kernel
theorem dX13_readTown_41 : decode cX13_readTown 41 = .ok (.ldc 231, 2) := by decide +kernel
theorem dX13_readTown_43 : decode cX13_readTown 43 = .ok (.bipush 60, 2) := by decide +kernel
theorem dX13_readTown_45 : decode cX13_readTown 45 = .ok (.bipush 120, 2) := by decide +kernel
theorem dX13_readTown_47 : decode cX13_readTown 47 = .ok (.invokevirtual 225, 3) := by decide +kernel
theorem dX13_readTown_50 : decode cX13_readTown 50 = .ok (.istore_n 3, 1) := by decide +kernel
theorem dX13_readTown_51 : decode cX13_readTown 51 = .ok (.aload_n 0, 1) := by decide +kernel
theorem dX13_readTown_52 : decode cX13_readTown 52 = .ok (.getfield 79, 3) := by decide +kernel
theorem dX13_readTown_55 : decode cX13_readTown 55 = .ok (.iconst 5, 1) := by decide +kernel
theorem dX13_readTown_56 : decode cX13_readTown 56 = .ok (.if_icmp .ne 4, 3) := by decide +kernel
theorem dX13_readTown_59 : decode cX13_readTown 59 = .ok (.return_, 1) := by decide +kernel
theorem dX13_readTown_60 : decode cX13_readTown 60 = .ok (.aload_n 0, 1) := by decide +kernel
theorem dX13_readTown_61 : decode cX13_readTown 61 = .ok (.getfield 157, 3) := by decide +kernel
theorem dX13_readTown_64 : decode cX13_readTown 64 = .ok (.iload_n 1, 1) := by decide +kernel
theorem dX13_readTown_65 : decode cX13_readTown 65 = .ok (.putfield 232, 3) := by decide +kernel
theorem dX13_readTown_68 : decode cX13_readTown 68 = .ok (.aload_n 0, 1) := by decide +kernel
theorem dX13_readTown_69 : decode cX13_readTown 69 = .ok (.getfield 157, 3) := by decide +kernel
theorem dX13_readTown_72 : decode cX13_readTown 72 = .ok (.iload_n 2, 1) := by decide +kernel
theorem dX13_readTown_73 : decode cX13_readTown 73 = .ok (.putfield 234, 3) := by decide +kernel
theorem dX13_readTown_76 : decode cX13_readTown 76 = .ok (.aload_n 0, 1) := by decide +kernel
theorem dX13_readTown_77 : decode cX13_readTown 77 = .ok (.getfield 157, 3) := by decide +kernel
theorem dX13_readTown_80 : decode cX13_readTown 80 = .ok (.iload_n 3, 1) := by decide +kernel
theorem dX13_readTown_81 : decode cX13_readTown 81 = .ok (.putfield 161, 3) := by decide +kernel
theorem dX13_readTown_84 : decode cX13_readTown 84 = .ok (.return_, 1) := by decide +kernel
theorem dX13_readHouse_0 : decode cX13_readHouse 0 = .ok (.aload_n 0, 1) := by decide +kernel
theorem dX13_readHouse_1 : decode cX13_readHouse 1 = .ok (.aload_n 0, 1) := by decide +kernel
theorem dX13_readHouse_2 : decode cX13_readHouse 2 = .ok (.getfield 157, 3) := by decide +kernel
theorem dX13_readHouse_5 : decode cX13_readHouse 5 = .ok (.getfield 196, 3) := by decide +kernel
theorem dX13_readHouse_8 : decode cX13_readHouse 8 = .ok (.bipush 6, 2) := by decide +kernel
theorem dX13_readHouse_10 : decode cX13_readHouse 10 = .ok (.invokevirtual 236, 3) := by decide +kernel
theorem dX13_readHouse_13 : decode cX13_readHouse 13 = .ok (.aload_n 0, 1) := by decide +kernel
theorem dX13_readHouse_14 : decode cX13_readHouse 14 = .ok (.invokevirtual 240, 3) := by decide +kernel
theorem dX13_readHouse_17 : decode cX13_readHouse 17 = .ok (.lstore_n 1, 1) := by decide +kernel
theorem dX13_readHouse_18 : decode cX13_readHouse 18 = .ok (.aload_n 0, 1) := by decide +kernel
theorem dX13_readHouse_19 : decode cX13_readHouse 19 = .ok (.ldc 244, 2) := by decide +kernel
theorem dX13_readHouse_21 : decode cX13_readHouse 21 = .ok (.bipush 10, 2) := by decide +kernel
theorem dX13_readHouse_23 : decode cX13_readHouse 23 = .ok (.bipush 59, 2) := by decide +kernel
theorem dX13_readHouse_25 : decode cX13_readHouse 25 = .ok (.invokevirtual 225, 3) := by decide +kernel
theorem dX13_readHouse_28 : decode cX13_readHouse 28 = .ok (.istore_n 3, 1) := by decide +kernel
theorem dX13_readHouse_29 : decode cX13_readHouse 29 = .ok (.aload_n 0, 1) := by decide +kernel
theorem dX13_readHouse_30 : decode cX13_readHouse 30 = .ok (.getfield 79, 3) := by decide +kernel
theorem dX13_readHouse_33 : decode cX13_readHouse 33 = .ok (.iconst 5, 1) := by decide +kernel
theorem dX13_readHouse_34 : decode cX13_readHouse 34 = .ok (.if_icmp .ne 4, 3) := by decide +kernel
theorem dX13_readHouse_37 : decode cX13_readHouse 37 = .ok (.return_, 1) := by decide +kernel
theorem dX13_readHouse_38 : decode cX13_readHouse 38 = .ok (.aload_n 0, 1) := by decide +kernel
theorem dX13_readHouse_39 : decode cX13_readHouse 39 = .ok (.lload_n 1, 1) := by decide +kernel
theorem dX13_readHouse_40 : decode cX13_readHouse 40 = .ok (.iconst 0, 1) := by decide +kernel
theorem dX13_readHouse_41 : decode cX13_readHouse 41 = .ok (.aload_n 0, 1) := by decide +kernel
theorem dX13_readHouse_42 : decode cX13_readHouse 42 = .ok (.getfield 157, 3) := by decide +kernel
theorem dX13_readHouse_45 : decode cX13_readHouse 45 = .ok (.getfield 196, 3) := by decide +kernel
theorem dX13_readHouse_48 : decode cX13_readHouse 48 = .ok (.invokevirtual 246, 3) := by decide +kernel
theorem dX13_readHouse_51 : decode cX13_readHouse 51 = .ok (.aload_n 0, 1) := by decide +kernel
theorem dX13_readHouse_52 : decode cX13_readHouse 52 = .ok (.getfield 157, 3) := by decide +kernel
theorem dX13_readHouse_55 : decode cX13_readHouse 55 = .ok (.getfield 249, 3) := by decide +kernel
theorem dX13_readHouse_58 : decode cX13_readHouse 58 = .ok (.aload_n 0, 1) := by decide +kernel
theorem dX13_readHouse_59 : decode cX13_readHouse 59 = .ok (.getfield 157, 3) := by decide +kernel
theorem dX13_readHouse_62 : decode cX13_readHouse 62 = .ok (.getfield 196, 3) := by decide +kernel
theorem dX13_readHouse_65 : decode cX13_readHouse 65 = .ok (.iload_n 3, 1) := by decide +kernel
theorem dX13_readHouse_66 : decode cX13_readHouse 66 = .ok (.iastore, 1) := by decide +kernel
theorem dX13_readHouse_67 : decode cX13_readHouse 67 = .ok (.aload_n 0, 1) := by decide +kernel
theorem dX13_readHouse_68 : decode cX13_readHouse 68 = .ok (.getfield 157, 3) := by decide +kernel
theorem dX13_readHouse_71 : decode cX13_readHouse 71 = .ok (.dup, 1) := by decide +kernel
theorem dX13_readHouse_72 : decode cX13_readHouse 72 = .ok (.getfield 196, 3) := by decide +kernel
theorem dX13_readHouse_75 : decode cX13_readHouse 75 = .ok (.iconst 1, 1) := by decide +kernel
theorem dX13_readHouse_76 : decode cX13_readHouse 76 = .ok (.iadd, 1) := by decide +kernel
theorem dX13_readHouse_77 : decode cX13_readHouse 77 = .ok (.putfield 196, 3) := by decide +kernel
theorem dX13_readHouse_80 : decode cX13_readHouse 80 = .ok (.return_, 1) := by decide +kernel
theorem dX13_readLane_0 : decode cX13_readLane 0 = .ok (.aload_n 0, 1) := by decide +kernel
theorem dX13_readLane_1 : decode cX13_readLane 1 = .ok (.aload_n 0, 1) := by decide +kernel
theorem dX13_readLane_2 : decode cX13_readLane 2 = .ok (.getfield 157, 3) := by decide +kernel
theorem dX13_readLane_5 : decode cX13_readLane 5 = .ok (.getfield 251, 3) := by decide +kernel
theorem dX13_readLane_8 : decode cX13_readLane 8 = .ok (.bipush 9, 2) := by decide +kernel
theorem dX13_readLane_10 : decode cX13_readLane 10 = .ok (.invokevirtual 236, 3) := by decide +kernel
theorem dX13_readLane_13 : decode cX13_readLane 13 = .ok (.aload_n 0, 1) := by decide +kernel
theorem dX13_readLane_14 : decode cX13_readLane 14 = .ok (.iconst 0, 1) := by decide +kernel
theorem dX13_readLane_15 : decode cX13_readLane 15 = .ok (.invokevirtual 254, 3) := by decide +kernel
theorem dX13_readLane_18 : decode cX13_readLane 18 = .ok (.istore_n 1, 1) := by decide +kernel
theorem dX13_readLane_19 : decode cX13_readLane 19 = .ok (.aload_n 0, 1) := by decide +kernel
theorem dX13_readLane_20 : decode cX13_readLane 20 = .ok (.iconst 0, 1) := by decide +kernel
theorem dX13_readLane_21 : decode cX13_readLane 21 = .ok (.invokevirtual 187, 3) := by decide +kernel
theorem dX13_readLane_24 : decode cX13_readLane 24 = .ok (.istore_n 2, 1) := by decide +kernel
theorem dX13_readLane_25 : decode cX13_readLane 25 = .ok (.aload_n 0, 1) := by decide +kernel
theorem dX13_readLane_26 : decode cX13_readLane 26 = .ok (.getfield 79, 3) := by decide +kernel
theorem dX13_readLane_29 : decode cX13_readLane 29 = .ok (.iconst 5, 1) := by decide +kernel
theorem dX13_readLane_30 : decode cX13_readLane 30 = .ok (.if_icmp .eq 30, 3) := by decide +kernel
theorem dX13_readLane_33 : decode cX13_readLane 33 = .ok (.iload_n 1, 1) := by decide +kernel
theorem dX13_readLane_34 : decode cX13_readLane 34 = .ok (.iload_n 2, 1) := by decide +kernel
theorem dX13_readLane_35 : decode cX13_readLane 35 = .ok (.if_icmp .eq 20, 3) := by decide +kernel
theorem dX13_readLane_38 : decode cX13_readLane 38 = .ok (.aload_n 0, 1) := by decide +kernel
theorem dX13_readLane_39 : decode cX13_readLane 39 = .ok (.getfield 157, 3) := by decide +kernel
theorem dX13_readLane_42 : decode cX13_readLane 42 = .ok (.getfield 257, 3) := by decide +kernel
theorem dX13_readLane_45 : decode cX13_readLane 45 = .ok (.bipush 6, 2) := by decide +kernel
theorem dX13_readLane_47 : decode cX13_readLane 47 = .ok (.iload_n 1, 1) := by decide +kernel
theorem dX13_readLane_48 : decode cX13_readLane 48 = .ok (.imul, 1) := by decide +kernel
theorem dX13_readLane_49 : decode cX13_readLane 49 = .ok (.iload_n 2, 1) := by decide +kernel
theorem dX13_readLane_50 : decode cX13_readLane 50 = .ok (.iadd, 1) := by decide +kernel
theorem dX13_readLane_51 : decode cX13_readLane 51 = .ok (.iaload, 1) := by decide +kernel
theorem dX13_readLane_52 : decode cX13_readLane 52 = .ok (.ifCond .le 8, 3) := by decide +kernel
theorem dX13_readLane_55 : decode cX13_readLane 55 = .ok (.aload_n 0, 1) := by decide +kernel
theorem dX13_readLane_56 : decode cX13_readLane 56 = .ok (.iconst 3, 1) := by decide +kernel
theorem dX13_readLane_57 : decode cX13_readLane 57 = .ok (.invokevirtual 125, 3) := by decide +kernel
theorem dX13_readLane_60 : decode cX13_readLane 60 = .ok (.aload_n 0, 1) := by decide +kernel
theorem dX13_readLane_61 : decode cX13_readLane 61 = .ok (.invokevirtual 118, 3) := by decide +kernel
theorem dX13_readLane_64 : decode cX13_readLane 64 = .ok (.aload_n 0, 1) := by decide +kernel
theorem dX13_readLane_65 : decode cX13_readLane 65 = .ok (.ldc_w 260, 3) := by decide +kernel
theorem dX13_readLane_68 : decode cX13_readLane 68 = .ok (.iconst 1, 1) := by decide +kernel
theorem dX13_readLane_69 : decode cX13_readLane 69 = .ok (.bipush 60, 2) := by decide +kernel
theorem dX13_readLane_71 : decode cX13_readLane 71 = .ok (.invokevirtual 225, 3) := by decide +kernel
theorem dX13_readLane_74 : decode cX13_readLane 74 = .ok (.istore_n 3, 1) := by decide +kernel
theorem dX13_readLane_75 : decode cX13_readLane 75 = .ok (.aload_n 0, 1) := by decide +kernel
theorem dX13_readLane_76 : decode cX13_readLane 76 = .ok (.getfield 79, 3) := by decide +kernel
theorem dX13_readLane_79 : decode cX13_readLane 79 = .ok (.iconst 5, 1) := by decide +kernel
theorem dX13_readLane_80 : decode cX13_readLane 80 = .ok (.if_icmp .ne 4, 3) := by decide +kernel
theorem dX13_readLane_83 : decode cX13_readLane 83 = .ok (.return_, 1) := by decide +kernel
theorem dX13_readLane_84 : decode cX13_readLane 84 = .ok (.aload_n 0, 1) := by decide +kernel
theorem dX13_readLane_85 : decode cX13_readLane 85 = .ok (.getfield 157, 3) := by decide +kernel
theorem dX13_readLane_88 : decode cX13_readLane 88 = .ok (.getfield 257, 3) := by decide +kernel
theorem dX13_readLane_91 : decode cX13_readLane 91 = .ok (.bipush 6, 2) := by decide +kernel
theorem dX13_readLane_93 : decode cX13_readLane 93 = .ok (.iload_n 1, 1) := by decide +kernel
theorem dX13_readLane_94 : decode cX13_readLane 94 = .ok (.imul, 1) := by decide +kernel
theorem dX13_readLane_95 : decode cX13_readLane 95 = .ok (.iload_n 2, 1) := by decide +kernel
theorem dX13_readLane_96 : decode cX13_readLane 96 = .ok (.iadd, 1) := by decide +kernel
theorem dX13_readLane_97 : decode cX13_readLane 97 = .ok (.iload_n 3, 1) := by decide +kernel
theorem dX13_readLane_98 : decode cX13_readLane 98 = .ok (.iastore, 1) := by decide +kernel
theorem dX13_readLane_99 : decode cX13_readLane 99 = .ok (.aload_n 0, 1) := by decide +kernel
theorem dX13_readLane_100 : decode cX13_readLane 100 = .ok (.getfield 157, 3) := by decide +kernel
theorem dX13_readLane_103 : decode cX13_readLane 103 = .ok (.getfield 257, 3) := by decide +kernel
theorem dX13_readLane_106 : decode cX13_readLane 106 = .ok (.bipush 6, 2) := by decide +kernel
theorem dX13_readLane_108 : decode cX13_readLane 108 = .ok (.iload_n 2, 1) := by decide +kernel
theorem dX13_readLane_109 : decode cX13_readLane 109 = .ok (.imul, 1) := by decide +kernel
theorem dX13_readLane_110 : decode cX13_readLane 110 = .ok (.iload_n 1, 1) := by decide +kernel
theorem dX13_readLane_111 : decode cX13_readLane 111 = .ok (.iadd, 1) := by decide +kernel
theorem dX13_readLane_112 : decode cX13_readLane 112 = .ok (.iload_n 3, 1) := by decide +kernel
theorem dX13_readLane_113 : decode cX13_readLane 113 = .ok (.iastore, 1) := by decide +kernel
theorem dX13_readLane_114 : decode cX13_readLane 114 = .ok (.aload_n 0, 1) := by decide +kernel
theorem dX13_readLane_115 : decode cX13_readLane 115 = .ok (.getfield 157, 3) := by decide +kernel
theorem dX13_readLane_118 : decode cX13_readLane 118 = .ok (.dup, 1) := by decide +kernel
theorem dX13_readLane_119 : decode cX13_readLane 119 = .ok (.getfield 251, 3) := by decide +kernel
theorem dX13_readLane_122 : decode cX13_readLane 122 = .ok (.iconst 1, 1) := by decide +kernel
theorem dX13_readLane_123 : decode cX13_readLane 123 = .ok (.iadd, 1) := by decide +kernel
theorem dX13_readLane_124 : decode cX13_readLane 124 = .ok (.putfield 251, 3) := by decide +kernel
theorem dX13_readLane_127 : decode cX13_readLane 127 = .ok (.return_, 1) := by decide +kernel
theorem dX13_readPerson_0 : decode cX13_readPerson 0 = .ok (.aload_n 0, 1) := by decide +kernel
theorem dX13_readPerson_1 : decode cX13_readPerson 1 = .ok (.aload_n 0, 1) := by decide +kernel
theorem dX13_readPerson_2 : decode cX13_readPerson 2 = .ok (.getfield 157, 3) := by decide +kernel
theorem dX13_readPerson_5 : decode cX13_readPerson 5 = .ok (.getfield 199, 3) := by decide +kernel
theorem dX13_readPerson_8 : decode cX13_readPerson 8 = .ok (.bipush 6, 2) := by decide +kernel
theorem dX13_readPerson_10 : decode cX13_readPerson 10 = .ok (.invokevirtual 236, 3) := by decide +kernel
theorem dX13_readPerson_13 : decode cX13_readPerson 13 = .ok (.aload_n 0, 1) := by decide +kernel
theorem dX13_readPerson_14 : decode cX13_readPerson 14 = .ok (.invokevirtual 240, 3) := by decide +kernel
theorem dX13_readPerson_17 : decode cX13_readPerson 17 = .ok (.lstore_n 1, 1) := by decide +kernel
theorem dX13_readPerson_18 : decode cX13_readPerson 18 = .ok (.aload_n 0, 1) := by decide +kernel
theorem dX13_readPerson_19 : decode cX13_readPerson 19 = .ok (.ldc_w 261, 3) := by decide +kernel
theorem dX13_readPerson_22 : decode cX13_readPerson 22 = .ok (.invokevirtual 121, 3) := by decide +kernel
theorem dX13_readPerson_25 : decode cX13_readPerson 25 = .ok (.ifCond .eq 7, 3) := by decide +kernel
theorem dX13_readPerson_28 : decode cX13_readPerson 28 = .ok (.iconst 0, 1) := by decide +kernel
theorem dX13_readPerson_29 : decode cX13_readPerson 29 = .ok (.goto 32, 3) := by decide +kernel
theorem dX13_readPerson_32 : decode cX13_readPerson 32 = .ok (.aload_n 0, 1) := by decide +kernel
theorem dX13_readPerson_33 : decode cX13_readPerson 33 = .ok (.ldc_w 263, 3) := by decide +kernel
theorem dX13_readPerson_36 : decode cX13_readPerson 36 = .ok (.invokevirtual 121, 3) := by decide +kernel
theorem dX13_readPerson_39 : decode cX13_readPerson 39 = .ok (.ifCond .eq 7, 3) := by decide +kernel
theorem dX13_readPerson_42 : decode cX13_readPerson 42 = .ok (.iconst 1, 1) := by decide +kernel
theorem dX13_readPerson_43 : decode cX13_readPerson 43 = .ok (.goto 18, 3) := by decide +kernel
theorem dX13_readPerson_46 : decode cX13_readPerson 46 = .ok (.aload_n 0, 1) := by decide +kernel
theorem dX13_readPerson_47 : decode cX13_readPerson 47 = .ok (.ldc_w 265, 3) := by decide +kernel
theorem dX13_readPerson_50 : decode cX13_readPerson 50 = .ok (.invokevirtual 121, 3) := by decide +kernel
theorem dX13_readPerson_53 : decode cX13_readPerson 53 = .ok (.ifCond .eq 7, 3) := by decide +kernel
theorem dX13_readPerson_56 : decode cX13_readPerson 56 = .ok (.iconst 2, 1) := by decide +kernel
theorem dX13_readPerson_57 : decode cX13_readPerson 57 = .ok (.goto 4, 3) := by decide +kernel
theorem dX13_readPerson_60 : decode cX13_readPerson 60 = .ok (.iconst (-1), 1) := by decide +kernel
theorem dX13_readPerson_61 : decode cX13_readPerson 61 = .ok (.istore_n 3, 1) := by decide +kernel
theorem dX13_readPerson_62 : decode cX13_readPerson 62 = .ok (.iload_n 3, 1) := by decide +kernel
theorem dX13_readPerson_63 : decode cX13_readPerson 63 = .ok (.iconst (-1), 1) := by decide +kernel
theorem dX13_readPerson_64 : decode cX13_readPerson 64 = .ok (.if_icmp .ne 8, 3) := by decide +kernel
theorem dX13_readPerson_67 : decode cX13_readPerson 67 = .ok (.aload_n 0, 1) := by decide +kernel
theorem dX13_readPerson_68 : decode cX13_readPerson 68 = .ok (.iconst 1, 1) := by decide +kernel
theorem dX13_readPerson_69 : decode cX13_readPerson 69 = .ok (.invokevirtual 125, 3) := by decide +kernel
theorem dX13_readPerson_72 : decode cX13_readPerson 72 = .ok (.aload_n 0, 1) := by decide +kernel
theorem dX13_readPerson_73 : decode cX13_readPerson 73 = .ok (.invokevirtual 118, 3) := by decide +kernel
theorem dX13_readPerson_76 : decode cX13_readPerson 76 = .ok (.aload_n 0, 1) := by decide +kernel
theorem dX13_readPerson_77 : decode cX13_readPerson 77 = .ok (.ldc_w 267, 3) := by decide +kernel
theorem dX13_readPerson_80 : decode cX13_readPerson 80 = .ok (.invokevirtual 133, 3) := by decide +kernel
theorem dX13_readPerson_83 : decode cX13_readPerson 83 = .ok (.aload_n 0, 1) := by decide +kernel
theorem dX13_readPerson_84 : decode cX13_readPerson 84 = .ok (.iconst 0, 1) := by decide +kernel
theorem dX13_readPerson_85 : decode cX13_readPerson 85 = .ok (.invokevirtual 254, 3) := by decide +kernel
theorem dX13_readPerson_88 : decode cX13_readPerson 88 = .ok (.istore 4, 2) := by decide +kernel
theorem dX13_readPerson_90 : decode cX13_readPerson 90 = .ok (.aload_n 0, 1) := by decide +kernel
theorem dX13_readPerson_91 : decode cX13_readPerson 91 = .ok (.ldc_w 269, 3) := by decide +kernel
theorem dX13_readPerson_94 : decode cX13_readPerson 94 = .ok (.bipush 20, 2) := by decide +kernel
theorem dX13_readPerson_96 : decode cX13_readPerson 96 = .ok (.bipush 99, 2) := by decide +kernel
theorem dX13_readPerson_98 : decode cX13_readPerson 98 = .ok (.invokevirtual 225, 3) := by decide +kernel
theorem dX13_readPerson_101 : decode cX13_readPerson 101 = .ok (.istore 5, 2) := by decide +kernel
theorem dX13_readPerson_103 : decode cX13_readPerson 103 = .ok (.aload_n 0, 1) := by decide +kernel
theorem dX13_readPerson_104 : decode cX13_readPerson 104 = .ok (.ldc_w 271, 3) := by decide +kernel
theorem dX13_readPerson_107 : decode cX13_readPerson 107 = .ok (.invokevirtual 133, 3) := by decide +kernel
theorem dX13_readPerson_110 : decode cX13_readPerson 110 = .ok (.aload_n 0, 1) := by decide +kernel
theorem dX13_readPerson_111 : decode cX13_readPerson 111 = .ok (.iconst 3, 1) := by decide +kernel
theorem dX13_readPerson_112 : decode cX13_readPerson 112 = .ok (.invokevirtual 273, 3) := by decide +kernel
theorem dX13_readPerson_115 : decode cX13_readPerson 115 = .ok (.istore 6, 2) := by decide +kernel
theorem dX13_readPerson_117 : decode cX13_readPerson 117 = .ok (.aload_n 0, 1) := by decide +kernel
theorem dX13_readPerson_118 : decode cX13_readPerson 118 = .ok (.ldc_w 276, 3) := by decide +kernel
theorem dX13_readPerson_121 : decode cX13_readPerson 121 = .ok (.invokevirtual 133, 3) := by decide +kernel
theorem dX13_readPerson_124 : decode cX13_readPerson 124 = .ok (.aload_n 0, 1) := by decide +kernel
theorem dX13_readPerson_125 : decode cX13_readPerson 125 = .ok (.iconst 2, 1) := by decide +kernel
theorem dX13_readPerson_126 : decode cX13_readPerson 126 = .ok (.invokevirtual 273, 3) := by decide +kernel
theorem dX13_readPerson_129 : decode cX13_readPerson 129 = .ok (.istore 7, 2) := by decide +kernel
theorem dX13_readPerson_131 : decode cX13_readPerson 131 = .ok (.aload_n 0, 1) := by decide +kernel
theorem dX13_readPerson_132 : decode cX13_readPerson 132 = .ok (.getfield 79, 3) := by decide +kernel
theorem dX13_readPerson_135 : decode cX13_readPerson 135 = .ok (.iconst 5, 1) := by decide +kernel
theorem dX13_readPerson_136 : decode cX13_readPerson 136 = .ok (.if_icmp .ne 4, 3) := by decide +kernel
theorem dX13_readPerson_139 : decode cX13_readPerson 139 = .ok (.return_, 1) := by decide +kernel
theorem dX13_readPerson_140 : decode cX13_readPerson 140 = .ok (.aload_n 0, 1) := by decide +kernel
theorem dX13_readPerson_141 : decode cX13_readPerson 141 = .ok (.getfield 157, 3) := by decide +kernel
theorem dX13_readPerson_144 : decode cX13_readPerson 144 = .ok (.getfield 199, 3) := by decide +kernel
theorem dX13_readPerson_147 : decode cX13_readPerson 147 = .ok (.istore 8, 2) := by decide +kernel
theorem dX13_readPerson_149 : decode cX13_readPerson 149 = .ok (.aload_n 0, 1) := by decide +kernel
theorem dX13_readPerson_150 : decode cX13_readPerson 150 = .ok (.lload_n 1, 1) := by decide +kernel
theorem dX13_readPerson_151 : decode cX13_readPerson 151 = .ok (.iconst 1, 1) := by decide +kernel
theorem dX13_readPerson_152 : decode cX13_readPerson 152 = .ok (.iload 8, 2) := by decide +kernel
theorem dX13_readPerson_154 : decode cX13_readPerson 154 = .ok (.invokevirtual 246, 3) := by decide +kernel
theorem dX13_readPerson_157 : decode cX13_readPerson 157 = .ok (.aload_n 0, 1) := by decide +kernel
theorem dX13_readPerson_158 : decode cX13_readPerson 158 = .ok (.getfield 157, 3) := by decide +kernel
theorem dX13_readPerson_161 : decode cX13_readPerson 161 = .ok (.getfield 278, 3) := by decide +kernel
theorem dX13_readPerson_164 : decode cX13_readPerson 164 = .ok (.iload 8, 2) := by decide +kernel
theorem dX13_readPerson_166 : decode cX13_readPerson 166 = .ok (.iload_n 3, 1) := by decide +kernel
theorem dX13_readPerson_167 : decode cX13_readPerson 167 = .ok (.iastore, 1) := by decide +kernel
theorem dX13_readPerson_168 : decode cX13_readPerson 168 = .ok (.aload_n 0, 1) := by decide +kernel
theorem dX13_readPerson_169 : decode cX13_readPerson 169 = .ok (.getfield 157, 3) := by decide +kernel
theorem dX13_readPerson_172 : decode cX13_readPerson 172 = .ok (.getfield 281, 3) := by decide +kernel
theorem dX13_readPerson_175 : decode cX13_readPerson 175 = .ok (.iload 8, 2) := by decide +kernel
theorem dX13_readPerson_177 : decode cX13_readPerson 177 = .ok (.iload 4, 2) := by decide +kernel
theorem dX13_readPerson_179 : decode cX13_readPerson 179 = .ok (.iastore, 1) := by decide +kernel
theorem dX13_readPerson_180 : decode cX13_readPerson 180 = .ok (.aload_n 0, 1) := by decide +kernel
theorem dX13_readPerson_181 : decode cX13_readPerson 181 = .ok (.getfield 157, 3) := by decide +kernel
theorem dX13_readPerson_184 : decode cX13_readPerson 184 = .ok (.getfield 283, 3) := by decide +kernel
theorem dX13_readPerson_187 : decode cX13_readPerson 187 = .ok (.iload 8, 2) := by decide +kernel
theorem dX13_readPerson_189 : decode cX13_readPerson 189 = .ok (.iload 5, 2) := by decide +kernel
theorem dX13_readPerson_191 : decode cX13_readPerson 191 = .ok (.iastore, 1) := by decide +kernel
theorem dX13_readPerson_192 : decode cX13_readPerson 192 = .ok (.iconst 0, 1) := by decide +kernel
theorem dX13_readPerson_193 : decode cX13_readPerson 193 = .ok (.istore 9, 2) := by decide +kernel
theorem dX13_readPerson_195 : decode cX13_readPerson 195 = .ok (.iload 9, 2) := by decide +kernel
theorem dX13_readPerson_197 : decode cX13_readPerson 197 = .ok (.iconst 5, 1) := by decide +kernel
theorem dX13_readPerson_198 : decode cX13_readPerson 198 = .ok (.if_icmp .ge 55, 3) := by decide +kernel
theorem dX13_readPerson_201 : decode cX13_readPerson 201 = .ok (.aload_n 0, 1) := by decide +kernel
theorem dX13_readPerson_202 : decode cX13_readPerson 202 = .ok (.getfield 157, 3) := by decide +kernel
theorem dX13_readPerson_205 : decode cX13_readPerson 205 = .ok (.getfield 285, 3) := by decide +kernel
theorem dX13_readPerson_208 : decode cX13_readPerson 208 = .ok (.iconst 5, 1) := by decide +kernel
theorem dX13_readPerson_209 : decode cX13_readPerson 209 = .ok (.iload 8, 2) := by decide +kernel
theorem dX13_readPerson_211 : decode cX13_readPerson 211 = .ok (.imul, 1) := by decide +kernel
theorem dX13_readPerson_212 : decode cX13_readPerson 212 = .ok (.iload 9, 2) := by decide +kernel
theorem dX13_readPerson_214 : decode cX13_readPerson 214 = .ok (.iadd, 1) := by decide +kernel
theorem dX13_readPerson_215 : decode cX13_readPerson 215 = .ok (.iload 9, 2) := by decide +kernel
theorem dX13_readPerson_217 : decode cX13_readPerson 217 = .ok (.iconst 3, 1) := by decide +kernel
theorem dX13_readPerson_218 : decode cX13_readPerson 218 = .ok (.if_icmp .ge 17, 3) := by decide +kernel
theorem dX13_readPerson_221 : decode cX13_readPerson 221 = .ok (.iload 6, 2) := by decide +kernel
theorem dX13_readPerson_223 : decode cX13_readPerson 223 = .ok (.iconst 2, 1) := by decide +kernel
theorem dX13_readPerson_224 : decode cX13_readPerson 224 = .ok (.iconst 2, 1) := by decide +kernel
theorem dX13_readPerson_225 : decode cX13_readPerson 225 = .ok (.iload 9, 2) := by decide +kernel
theorem dX13_readPerson_227 : decode cX13_readPerson 227 = .ok (.isub, 1) := by decide +kernel
theorem dX13_readPerson_228 : decode cX13_readPerson 228 = .ok (.imul, 1) := by decide +kernel
theorem dX13_readPerson_229 : decode cX13_readPerson 229 = .ok (.ishr, 1) := by decide +kernel
theorem dX13_readPerson_230 : decode cX13_readPerson 230 = .ok (.iconst 3, 1) := by decide +kernel
theorem dX13_readPerson_231 : decode cX13_readPerson 231 = .ok (.iand, 1) := by decide +kernel
theorem dX13_readPerson_232 : decode cX13_readPerson 232 = .ok (.goto 14, 3) := by decide +kernel
theorem dX13_readPerson_235 : decode cX13_readPerson 235 = .ok (.iload 7, 2) := by decide +kernel
theorem dX13_readPerson_237 : decode cX13_readPerson 237 = .ok (.iconst 2, 1) := by decide +kernel
theorem dX13_readPerson_238 : decode cX13_readPerson 238 = .ok (.iconst 4, 1) := by decide +kernel
theorem dX13_readPerson_239 : decode cX13_readPerson 239 = .ok (.iload 9, 2) := by decide +kernel
theorem dX13_readPerson_241 : decode cX13_readPerson 241 = .ok (.isub, 1) := by decide +kernel
theorem dX13_readPerson_242 : decode cX13_readPerson 242 = .ok (.imul, 1) := by decide +kernel
theorem dX13_readPerson_243 : decode cX13_readPerson 243 = .ok (.ishr, 1) := by decide +kernel
theorem dX13_readPerson_244 : decode cX13_readPerson 244 = .ok (.iconst 3, 1) := by decide +kernel
theorem dX13_readPerson_245 : decode cX13_readPerson 245 = .ok (.iand, 1) := by decide +kernel
theorem dX13_readPerson_246 : decode cX13_readPerson 246 = .ok (.iastore, 1) := by decide +kernel
theorem dX13_readPerson_247 : decode cX13_readPerson 247 = .ok (.iinc 9 1, 3) := by decide +kernel
theorem dX13_readPerson_250 : decode cX13_readPerson 250 = .ok (.goto (-55), 3) := by decide +kernel
theorem dX13_readPerson_253 : decode cX13_readPerson 253 = .ok (.aload_n 0, 1) := by decide +kernel
theorem dX13_readPerson_254 : decode cX13_readPerson 254 = .ok (.getfield 157, 3) := by decide +kernel
theorem dX13_readPerson_257 : decode cX13_readPerson 257 = .ok (.dup, 1) := by decide +kernel
theorem dX13_readPerson_258 : decode cX13_readPerson 258 = .ok (.getfield 199, 3) := by decide +kernel
theorem dX13_readPerson_261 : decode cX13_readPerson 261 = .ok (.iconst 1, 1) := by decide +kernel
theorem dX13_readPerson_262 : decode cX13_readPerson 262 = .ok (.iadd, 1) := by decide +kernel
theorem dX13_readPerson_263 : decode cX13_readPerson 263 = .ok (.putfield 199, 3) := by decide +kernel
theorem dX13_readPerson_266 : decode cX13_readPerson 266 = .ok (.return_, 1) := by decide +kernel
theorem dX13_readGood_0 : decode cX13_readGood 0 = .ok (.aload_n 0, 1) := by decide +kernel
theorem dX13_readGood_1 : decode cX13_readGood 1 = .ok (.aload_n 0, 1) := by decide +kernel
theorem dX13_readGood_2 : decode cX13_readGood 2 = .ok (.getfield 157, 3) := by decide +kernel
theorem dX13_readGood_5 : decode cX13_readGood 5 = .ok (.getfield 288, 3) := by decide +kernel
theorem dX13_readGood_8 : decode cX13_readGood 8 = .ok (.iconst 5, 1) := by decide +kernel
theorem dX13_readGood_9 : decode cX13_readGood 9 = .ok (.invokevirtual 236, 3) := by decide +kernel
theorem dX13_readGood_12 : decode cX13_readGood 12 = .ok (.aload_n 0, 1) := by decide +kernel
theorem dX13_readGood_13 : decode cX13_readGood 13 = .ok (.invokevirtual 240, 3) := by decide +kernel
theorem dX13_readGood_16 : decode cX13_readGood 16 = .ok (.lstore_n 1, 1) := by decide +kernel
theorem dX13_readGood_17 : decode cX13_readGood 17 = .ok (.aload_n 0, 1) := by decide +kernel
theorem dX13_readGood_18 : decode cX13_readGood 18 = .ok (.ldc_w 291, 3) := by decide +kernel
theorem dX13_readGood_21 : decode cX13_readGood 21 = .ok (.iconst 1, 1) := by decide +kernel
theorem dX13_readGood_22 : decode cX13_readGood 22 = .ok (.sipush 150, 3) := by decide +kernel
theorem dX13_readGood_25 : decode cX13_readGood 25 = .ok (.invokevirtual 225, 3) := by decide +kernel
theorem dX13_readGood_28 : decode cX13_readGood 28 = .ok (.istore_n 3, 1) := by decide +kernel
theorem dX13_readGood_29 : decode cX13_readGood 29 = .ok (.aload_n 0, 1) := by decide +kernel
theorem dX13_readGood_30 : decode cX13_readGood 30 = .ok (.ldc_w 292, 3) := by decide +kernel
theorem dX13_readGood_33 : decode cX13_readGood 33 = .ok (.invokevirtual 133, 3) := by decide +kernel
theorem dX13_readGood_36 : decode cX13_readGood 36 = .ok (.aload_n 0, 1) := by decide +kernel
theorem dX13_readGood_37 : decode cX13_readGood 37 = .ok (.iconst 0, 1) := by decide +kernel
theorem dX13_readGood_38 : decode cX13_readGood 38 = .ok (.invokevirtual 254, 3) := by decide +kernel
theorem dX13_readGood_41 : decode cX13_readGood 41 = .ok (.istore 4, 2) := by decide +kernel
theorem dX13_readGood_43 : decode cX13_readGood 43 = .ok (.aload_n 0, 1) := by decide +kernel
theorem dX13_readGood_44 : decode cX13_readGood 44 = .ok (.ldc_w 294, 3) := by decide +kernel
theorem dX13_readGood_47 : decode cX13_readGood 47 = .ok (.invokevirtual 133, 3) := by decide +kernel
theorem dX13_readGood_50 : decode cX13_readGood 50 = .ok (.aload_n 0, 1) := by decide +kernel
theorem dX13_readGood_51 : decode cX13_readGood 51 = .ok (.iconst 0, 1) := by decide +kernel
theorem dX13_readGood_52 : decode cX13_readGood 52 = .ok (.invokevirtual 187, 3) := by decide +kernel
theorem dX13_readGood_55 : decode cX13_readGood 55 = .ok (.istore 5, 2) := by decide +kernel
theorem dX13_readGood_57 : decode cX13_readGood 57 = .ok (.aload_n 0, 1) := by decide +kernel
theorem dX13_readGood_58 : decode cX13_readGood 58 = .ok (.getfield 79, 3) := by decide +kernel
theorem dX13_readGood_61 : decode cX13_readGood 61 = .ok (.iconst 5, 1) := by decide +kernel
theorem dX13_readGood_62 : decode cX13_readGood 62 = .ok (.if_icmp .eq 15, 3) := by decide +kernel
theorem dX13_readGood_65 : decode cX13_readGood 65 = .ok (.iload 4, 2) := by decide +kernel
theorem dX13_readGood_67 : decode cX13_readGood 67 = .ok (.iload 5, 2) := by decide +kernel
theorem dX13_readGood_69 : decode cX13_readGood 69 = .ok (.if_icmp .ne 8, 3) := by decide +kernel
theorem dX13_readGood_72 : decode cX13_readGood 72 = .ok (.aload_n 0, 1) := by decide +kernel
theorem dX13_readGood_73 : decode cX13_readGood 73 = .ok (.iconst 3, 1) := by decide +kernel
theorem dX13_readGood_74 : decode cX13_readGood 74 = .ok (.invokevirtual 125, 3) := by decide +kernel
theorem dX13_readGood_77 : decode cX13_readGood 77 = .ok (.aload_n 0, 1) := by decide +kernel
theorem dX13_readGood_78 : decode cX13_readGood 78 = .ok (.invokevirtual 118, 3) := by decide +kernel
theorem dX13_readGood_81 : decode cX13_readGood 81 = .ok (.aload_n 0, 1) := by decide +kernel
theorem dX13_readGood_82 : decode cX13_readGood 82 = .ok (.getfield 79, 3) := by decide +kernel
theorem dX13_readGood_85 : decode cX13_readGood 85 = .ok (.iconst 5, 1) := by decide +kernel
theorem dX13_readGood_86 : decode cX13_readGood 86 = .ok (.if_icmp .ne 4, 3) := by decide +kernel
theorem dX13_readGood_89 : decode cX13_readGood 89 = .ok (.return_, 1) := by decide +kernel
theorem dX13_readGood_90 : decode cX13_readGood 90 = .ok (.aload_n 0, 1) := by decide +kernel
theorem dX13_readGood_91 : decode cX13_readGood 91 = .ok (.getfield 157, 3) := by decide +kernel
theorem dX13_readGood_94 : decode cX13_readGood 94 = .ok (.getfield 288, 3) := by decide +kernel
theorem dX13_readGood_97 : decode cX13_readGood 97 = .ok (.istore 6, 2) := by decide +kernel
theorem dX13_readGood_99 : decode cX13_readGood 99 = .ok (.aload_n 0, 1) := by decide +kernel
theorem dX13_readGood_100 : decode cX13_readGood 100 = .ok (.lload_n 1, 1) := by decide +kernel
theorem dX13_readGood_101 : decode cX13_readGood 101 = .ok (.iconst 2, 1) := by decide +kernel
theorem dX13_readGood_102 : decode cX13_readGood 102 = .ok (.iload 6, 2) := by decide +kernel
theorem dX13_readGood_104 : decode cX13_readGood 104 = .ok (.invokevirtual 246, 3) := by decide +kernel
theorem dX13_readGood_107 : decode cX13_readGood 107 = .ok (.aload_n 0, 1) := by decide +kernel
theorem dX13_readGood_108 : decode cX13_readGood 108 = .ok (.getfield 157, 3) := by decide +kernel
theorem dX13_readGood_111 : decode cX13_readGood 111 = .ok (.getfield 296, 3) := by decide +kernel
theorem dX13_readGood_114 : decode cX13_readGood 114 = .ok (.iload 6, 2) := by decide +kernel
theorem dX13_readGood_116 : decode cX13_readGood 116 = .ok (.iload_n 3, 1) := by decide +kernel
theorem dX13_readGood_117 : decode cX13_readGood 117 = .ok (.iastore, 1) := by decide +kernel
theorem dX13_readGood_118 : decode cX13_readGood 118 = .ok (.aload_n 0, 1) := by decide +kernel
theorem dX13_readGood_119 : decode cX13_readGood 119 = .ok (.getfield 157, 3) := by decide +kernel
theorem dX13_readGood_122 : decode cX13_readGood 122 = .ok (.getfield 298, 3) := by decide +kernel
theorem dX13_readGood_125 : decode cX13_readGood 125 = .ok (.iload 6, 2) := by decide +kernel
theorem dX13_readGood_127 : decode cX13_readGood 127 = .ok (.iload 4, 2) := by decide +kernel
theorem dX13_readGood_129 : decode cX13_readGood 129 = .ok (.iastore, 1) := by decide +kernel
theorem dX13_readGood_130 : decode cX13_readGood 130 = .ok (.aload_n 0, 1) := by decide +kernel
theorem dX13_readGood_131 : decode cX13_readGood 131 = .ok (.getfield 157, 3) := by decide +kernel
theorem dX13_readGood_134 : decode cX13_readGood 134 = .ok (.getfield 300, 3) := by decide +kernel
theorem dX13_readGood_137 : decode cX13_readGood 137 = .ok (.iload 6, 2) := by decide +kernel
theorem dX13_readGood_139 : decode cX13_readGood 139 = .ok (.iload 5, 2) := by decide +kernel
theorem dX13_readGood_141 : decode cX13_readGood 141 = .ok (.iastore, 1) := by decide +kernel
theorem dX13_readGood_142 : decode cX13_readGood 142 = .ok (.aload_n 0, 1) := by decide +kernel
theorem dX13_readGood_143 : decode cX13_readGood 143 = .ok (.getfield 157, 3) := by decide +kernel
theorem dX13_readGood_146 : decode cX13_readGood 146 = .ok (.dup, 1) := by decide +kernel
theorem dX13_readGood_147 : decode cX13_readGood 147 = .ok (.getfield 288, 3) := by decide +kernel
theorem dX13_readGood_150 : decode cX13_readGood 150 = .ok (.iconst 1, 1) := by decide +kernel
theorem dX13_readGood_151 : decode cX13_readGood 151 = .ok (.iadd, 1) := by decide +kernel
theorem dX13_readGood_152 : decode cX13_readGood 152 = .ok (.putfield 288, 3) := by decide +kernel
theorem dX13_readGood_155 : decode cX13_readGood 155 = .ok (.return_, 1) := by decide +kernel
theorem dX13_readVisit_0 : decode cX13_readVisit 0 = .ok (.aload_n 0, 1) := by decide +kernel
theorem dX13_readVisit_1 : decode cX13_readVisit 1 = .ok (.aload_n 0, 1) := by decide +kernel
theorem dX13_readVisit_2 : decode cX13_readVisit 2 = .ok (.getfield 157, 3) := by decide +kernel
theorem dX13_readVisit_5 : decode cX13_readVisit 5 = .ok (.getfield 302, 3) := by decide +kernel
theorem dX13_readVisit_8 : decode cX13_readVisit 8 = .ok (.bipush 8, 2) := by decide +kernel
theorem dX13_readVisit_10 : decode cX13_readVisit 10 = .ok (.invokevirtual 236, 3) := by decide +kernel
theorem dX13_readVisit_13 : decode cX13_readVisit 13 = .ok (.aload_n 0, 1) := by decide +kernel
theorem dX13_readVisit_14 : decode cX13_readVisit 14 = .ok (.iconst 1, 1) := by decide +kernel
theorem dX13_readVisit_15 : decode cX13_readVisit 15 = .ok (.invokevirtual 254, 3) := by decide +kernel
theorem dX13_readVisit_18 : decode cX13_readVisit 18 = .ok (.istore_n 1, 1) := by decide +kernel
theorem dX13_readVisit_19 : decode cX13_readVisit 19 = .ok (.aload_n 0, 1) := by decide +kernel
theorem dX13_readVisit_20 : decode cX13_readVisit 20 = .ok (.iconst 0, 1) := by decide +kernel
theorem dX13_readVisit_21 : decode cX13_readVisit 21 = .ok (.invokevirtual 254, 3) := by decide +kernel
theorem dX13_readVisit_24 : decode cX13_readVisit 24 = .ok (.istore_n 2, 1) := by decide +kernel
theorem dX13_readVisit_25 : decode cX13_readVisit 25 = .ok (.aload_n 0, 1) := by decide +kernel
theorem dX13_readVisit_26 : decode cX13_readVisit 26 = .ok (.ldc_w 305, 3) := by decide +kernel
theorem dX13_readVisit_29 : decode cX13_readVisit 29 = .ok (.iconst 0, 1) := by decide +kernel
theorem dX13_readVisit_30 : decode cX13_readVisit 30 = .ok (.bipush 23, 2) := by decide +kernel
theorem dX13_readVisit_32 : decode cX13_readVisit 32 = .ok (.invokevirtual 225, 3) := by decide +kernel
theorem dX13_readVisit_35 : decode cX13_readVisit 35 = .ok (.istore_n 3, 1) := by decide +kernel
theorem dX13_readVisit_36 : decode cX13_readVisit 36 = .ok (.aload_n 0, 1) := by decide +kernel
theorem dX13_readVisit_37 : decode cX13_readVisit 37 = .ok (.getfield 79, 3) := by decide +kernel
theorem dX13_readVisit_40 : decode cX13_readVisit 40 = .ok (.iconst 5, 1) := by decide +kernel
theorem dX13_readVisit_41 : decode cX13_readVisit 41 = .ok (.if_icmp .ne 4, 3) := by decide +kernel
theorem dX13_readVisit_44 : decode cX13_readVisit 44 = .ok (.return_, 1) := by decide +kernel
theorem dX13_readVisit_45 : decode cX13_readVisit 45 = .ok (.aload_n 0, 1) := by decide +kernel
theorem dX13_readVisit_46 : decode cX13_readVisit 46 = .ok (.getfield 157, 3) := by decide +kernel
theorem dX13_readVisit_49 : decode cX13_readVisit 49 = .ok (.getfield 307, 3) := by decide +kernel
theorem dX13_readVisit_52 : decode cX13_readVisit 52 = .ok (.aload_n 0, 1) := by decide +kernel
theorem dX13_readVisit_53 : decode cX13_readVisit 53 = .ok (.getfield 157, 3) := by decide +kernel
theorem dX13_readVisit_56 : decode cX13_readVisit 56 = .ok (.getfield 302, 3) := by decide +kernel
theorem dX13_readVisit_59 : decode cX13_readVisit 59 = .ok (.iload_n 1, 1) := by decide +kernel
theorem dX13_readVisit_60 : decode cX13_readVisit 60 = .ok (.iastore, 1) := by decide +kernel
theorem dX13_readVisit_61 : decode cX13_readVisit 61 = .ok (.aload_n 0, 1) := by decide +kernel
theorem dX13_readVisit_62 : decode cX13_readVisit 62 = .ok (.getfield 157, 3) := by decide +kernel
theorem dX13_readVisit_65 : decode cX13_readVisit 65 = .ok (.getfield 310, 3) := by decide +kernel
theorem dX13_readVisit_68 : decode cX13_readVisit 68 = .ok (.aload_n 0, 1) := by decide +kernel
theorem dX13_readVisit_69 : decode cX13_readVisit 69 = .ok (.getfield 157, 3) := by decide +kernel
theorem dX13_readVisit_72 : decode cX13_readVisit 72 = .ok (.getfield 302, 3) := by decide +kernel
theorem dX13_readVisit_75 : decode cX13_readVisit 75 = .ok (.iload_n 2, 1) := by decide +kernel
theorem dX13_readVisit_76 : decode cX13_readVisit 76 = .ok (.iastore, 1) := by decide +kernel
theorem dX13_readVisit_77 : decode cX13_readVisit 77 = .ok (.aload_n 0, 1) := by decide +kernel
theorem dX13_readVisit_78 : decode cX13_readVisit 78 = .ok (.getfield 157, 3) := by decide +kernel
theorem dX13_readVisit_81 : decode cX13_readVisit 81 = .ok (.getfield 313, 3) := by decide +kernel
theorem dX13_readVisit_84 : decode cX13_readVisit 84 = .ok (.aload_n 0, 1) := by decide +kernel
theorem dX13_readVisit_85 : decode cX13_readVisit 85 = .ok (.getfield 157, 3) := by decide +kernel
theorem dX13_readVisit_88 : decode cX13_readVisit 88 = .ok (.getfield 302, 3) := by decide +kernel
theorem dX13_readVisit_91 : decode cX13_readVisit 91 = .ok (.iload_n 3, 1) := by decide +kernel
theorem dX13_readVisit_92 : decode cX13_readVisit 92 = .ok (.iastore, 1) := by decide +kernel
theorem dX13_readVisit_93 : decode cX13_readVisit 93 = .ok (.aload_n 0, 1) := by decide +kernel
theorem dX13_readVisit_94 : decode cX13_readVisit 94 = .ok (.getfield 157, 3) := by decide +kernel
theorem dX13_readVisit_97 : decode cX13_readVisit 97 = .ok (.dup, 1) := by decide +kernel
theorem dX13_readVisit_98 : decode cX13_readVisit 98 = .ok (.getfield 302, 3) := by decide +kernel
theorem dX13_readVisit_101 : decode cX13_readVisit 101 = .ok (.iconst 1, 1) := by decide +kernel
theorem dX13_readVisit_102 : decode cX13_readVisit 102 = .ok (.iadd, 1) := by decide +kernel
theorem dX13_readVisit_103 : decode cX13_readVisit 103 = .ok (.putfield 302, 3) := by decide +kernel
theorem dX13_readVisit_106 : decode cX13_readVisit 106 = .ok (.return_, 1) := by decide +kernel
theorem dX13_readPrint_0 : decode cX13_readPrint 0 = .ok (.aload_n 0, 1) := by decide +kernel
theorem dX13_readPrint_1 : decode cX13_readPrint 1 = .ok (.aload_n 0, 1) := by decide +kernel
theorem dX13_readPrint_2 : decode cX13_readPrint 2 = .ok (.getfield 157, 3) := by decide +kernel
theorem dX13_readPrint_5 : decode cX13_readPrint 5 = .ok (.getfield 316, 3) := by decide +kernel
theorem dX13_readPrint_8 : decode cX13_readPrint 8 = .ok (.iconst 5, 1) := by decide +kernel
theorem dX13_readPrint_9 : decode cX13_readPrint 9 = .ok (.invokevirtual 236, 3) := by decide +kernel
theorem dX13_readPrint_12 : decode cX13_readPrint 12 = .ok (.aload_n 0, 1) := by decide +kernel
theorem dX13_readPrint_13 : decode cX13_readPrint 13 = .ok (.iconst 0, 1) := by decide +kernel
theorem dX13_readPrint_14 : decode cX13_readPrint 14 = .ok (.invokevirtual 254, 3) := by decide +kernel
theorem dX13_readPrint_17 : decode cX13_readPrint 17 = .ok (.istore_n 1, 1) := by decide +kernel
theorem dX13_readPrint_18 : decode cX13_readPrint 18 = .ok (.aload_n 0, 1) := by decide +kernel
theorem dX13_readPrint_19 : decode cX13_readPrint 19 = .ok (.iconst 2, 1) := by decide +kernel
theorem dX13_readPrint_20 : decode cX13_readPrint 20 = .ok (.invokevirtual 273, 3) := by decide +kernel
theorem dX13_readPrint_23 : decode cX13_readPrint 23 = .ok (.istore_n 2, 1) := by decide +kernel
theorem dX13_readPrint_24 : decode cX13_readPrint 24 = .ok (.aload_n 0, 1) := by decide +kernel
theorem dX13_readPrint_25 : decode cX13_readPrint 25 = .ok (.ldc_w 319, 3) := by decide +kernel
theorem dX13_readPrint_28 : decode cX13_readPrint 28 = .ok (.iconst 0, 1) := by decide +kernel
theorem dX13_readPrint_29 : decode cX13_readPrint 29 = .ok (.bipush 20, 2) := by decide +kernel
theorem dX13_readPrint_31 : decode cX13_readPrint 31 = .ok (.invokevirtual 225, 3) := by decide +kernel
theorem dX13_readPrint_34 : decode cX13_readPrint 34 = .ok (.istore_n 3, 1) := by decide +kernel
theorem dX13_readPrint_35 : decode cX13_readPrint 35 = .ok (.aload_n 0, 1) := by decide +kernel
theorem dX13_readPrint_36 : decode cX13_readPrint 36 = .ok (.getfield 79, 3) := by decide +kernel
theorem dX13_readPrint_39 : decode cX13_readPrint 39 = .ok (.iconst 5, 1) := by decide +kernel
theorem dX13_readPrint_40 : decode cX13_readPrint 40 = .ok (.if_icmp .ne 4, 3) := by decide +kernel
theorem dX13_readPrint_43 : decode cX13_readPrint 43 = .ok (.return_, 1) := by decide +kernel
theorem dX13_readPrint_44 : decode cX13_readPrint 44 = .ok (.aload_n 0, 1) := by decide +kernel
theorem dX13_readPrint_45 : decode cX13_readPrint 45 = .ok (.getfield 157, 3) := by decide +kernel
theorem dX13_readPrint_48 : decode cX13_readPrint 48 = .ok (.getfield 321, 3) := by decide +kernel
theorem dX13_readPrint_51 : decode cX13_readPrint 51 = .ok (.aload_n 0, 1) := by decide +kernel
theorem dX13_readPrint_52 : decode cX13_readPrint 52 = .ok (.getfield 157, 3) := by decide +kernel
theorem dX13_readPrint_55 : decode cX13_readPrint 55 = .ok (.getfield 316, 3) := by decide +kernel
theorem dX13_readPrint_58 : decode cX13_readPrint 58 = .ok (.iload_n 1, 1) := by decide +kernel
theorem dX13_readPrint_59 : decode cX13_readPrint 59 = .ok (.iastore, 1) := by decide +kernel
theorem dX13_readPrint_60 : decode cX13_readPrint 60 = .ok (.aload_n 0, 1) := by decide +kernel
theorem dX13_readPrint_61 : decode cX13_readPrint 61 = .ok (.getfield 157, 3) := by decide +kernel
theorem dX13_readPrint_64 : decode cX13_readPrint 64 = .ok (.getfield 324, 3) := by decide +kernel
theorem dX13_readPrint_67 : decode cX13_readPrint 67 = .ok (.aload_n 0, 1) := by decide +kernel
theorem dX13_readPrint_68 : decode cX13_readPrint 68 = .ok (.getfield 157, 3) := by decide +kernel
theorem dX13_readPrint_71 : decode cX13_readPrint 71 = .ok (.getfield 316, 3) := by decide +kernel
theorem dX13_readPrint_74 : decode cX13_readPrint 74 = .ok (.iload_n 2, 1) := by decide +kernel
theorem dX13_readPrint_75 : decode cX13_readPrint 75 = .ok (.iastore, 1) := by decide +kernel
theorem dX13_readPrint_76 : decode cX13_readPrint 76 = .ok (.aload_n 0, 1) := by decide +kernel
theorem dX13_readPrint_77 : decode cX13_readPrint 77 = .ok (.getfield 157, 3) := by decide +kernel
theorem dX13_readPrint_80 : decode cX13_readPrint 80 = .ok (.getfield 326, 3) := by decide +kernel
theorem dX13_readPrint_83 : decode cX13_readPrint 83 = .ok (.aload_n 0, 1) := by decide +kernel
theorem dX13_readPrint_84 : decode cX13_readPrint 84 = .ok (.getfield 157, 3) := by decide +kernel
theorem dX13_readPrint_87 : decode cX13_readPrint 87 = .ok (.getfield 316, 3) := by decide +kernel
theorem dX13_readPrint_90 : decode cX13_readPrint 90 = .ok (.iload_n 3, 1) := by decide +kernel
theorem dX13_readPrint_91 : decode cX13_readPrint 91 = .ok (.iastore, 1) := by decide +kernel
theorem dX13_readPrint_92 : decode cX13_readPrint 92 = .ok (.aload_n 0, 1) := by decide +kernel
theorem dX13_readPrint_93 : decode cX13_readPrint 93 = .ok (.getfield 157, 3) := by decide +kernel
theorem dX13_readPrint_96 : decode cX13_readPrint 96 = .ok (.dup, 1) := by decide +kernel
theorem dX13_readPrint_97 : decode cX13_readPrint 97 = .ok (.getfield 316, 3) := by decide +kernel
theorem dX13_readPrint_100 : decode cX13_readPrint 100 = .ok (.iconst 1, 1) := by decide +kernel
theorem dX13_readPrint_101 : decode cX13_readPrint 101 = .ok (.iadd, 1) := by decide +kernel
theorem dX13_readPrint_102 : decode cX13_readPrint 102 = .ok (.putfield 316, 3) := by decide +kernel
theorem dX13_readPrint_105 : decode cX13_readPrint 105 = .ok (.return_, 1) := by decide +kernel
theorem dX13_feed_0 : decode cX13_feed 0 = .ok (.aload_n 0, 1) := by decide +kernel
theorem dX13_feed_1 : decode cX13_feed 1 = .ok (.iconst 0, 1) := by decide +kernel
theorem dX13_feed_2 : decode cX13_feed 2 = .ok (.putfield 51, 3) := by decide +kernel
theorem dX13_feed_5 : decode cX13_feed 5 = .ok (.aload_n 0, 1) := by decide +kernel
theorem dX13_feed_6 : decode cX13_feed 6 = .ok (.getfield 328, 3) := by decide +kernel
theorem dX13_feed_9 : decode cX13_feed 9 = .ok (.bipush 20, 2) := by decide +kernel
theorem dX13_feed_11 : decode cX13_feed 11 = .ok (.iadd, 1) := by decide +kernel
theorem dX13_feed_12 : decode cX13_feed 12 = .ok (.sipush 1100, 3) := by decide +kernel
theorem dX13_feed_15 : decode cX13_feed 15 = .ok (.if_icmp .le 5, 3) := by decide +kernel
theorem dX13_feed_18 : decode cX13_feed 18 = .ok (.iconst (-1), 1) := by decide +kernel
theorem dX13_feed_19 : decode cX13_feed 19 = .ok (.ireturn, 1) := by decide +kernel
theorem dX13_feed_20 : decode cX13_feed 20 = .ok (.iconst 0, 1) := by decide +kernel
theorem dX13_feed_21 : decode cX13_feed 21 = .ok (.istore 6, 2) := by decide +kernel
theorem dX13_feed_23 : decode cX13_feed 23 = .ok (.iload 6, 2) := by decide +kernel
theorem dX13_feed_25 : decode cX13_feed 25 = .ok (.bipush 20, 2) := by decide +kernel
theorem dX13_feed_27 : decode cX13_feed 27 = .ok (.if_icmp .ge 90, 3) := by decide +kernel
theorem dX13_feed_30 : decode cX13_feed 30 = .ok (.iload 6, 2) := by decide +kernel
theorem dX13_feed_32 : decode cX13_feed 32 = .ok (.iconst 4, 1) := by decide +kernel
theorem dX13_feed_33 : decode cX13_feed 33 = .ok (.if_icmp .ge 7, 3) := by decide +kernel
theorem dX13_feed_36 : decode cX13_feed 36 = .ok (.iload_n 1, 1) := by decide +kernel
theorem dX13_feed_37 : decode cX13_feed 37 = .ok (.goto 39, 3) := by decide +kernel
theorem dX13_feed_40 : decode cX13_feed 40 = .ok (.iload 6, 2) := by decide +kernel
theorem dX13_feed_42 : decode cX13_feed 42 = .ok (.bipush 8, 2) := by decide +kernel
theorem dX13_feed_44 : decode cX13_feed 44 = .ok (.if_icmp .ge 7, 3) := by decide +kernel
theorem dX13_feed_47 : decode cX13_feed 47 = .ok (.iload_n 2, 1) := by decide +kernel
theorem dX13_feed_48 : decode cX13_feed 48 = .ok (.goto 28, 3) := by decide +kernel
theorem dX13_feed_51 : decode cX13_feed 51 = .ok (.iload 6, 2) := by decide +kernel
theorem dX13_feed_53 : decode cX13_feed 53 = .ok (.bipush 12, 2) := by decide +kernel
theorem dX13_feed_55 : decode cX13_feed 55 = .ok (.if_icmp .ge 7, 3) := by decide +kernel
theorem dX13_feed_58 : decode cX13_feed 58 = .ok (.iload_n 3, 1) := by decide +kernel
theorem dX13_feed_59 : decode cX13_feed 59 = .ok (.goto 17, 3) := by decide +kernel
theorem dX13_feed_62 : decode cX13_feed 62 = .ok (.iload 6, 2) := by decide +kernel
theorem dX13_feed_64 : decode cX13_feed 64 = .ok (.bipush 16, 2) := by decide +kernel
theorem dX13_feed_66 : decode cX13_feed 66 = .ok (.if_icmp .ge 8, 3) := by decide +kernel
theorem dX13_feed_69 : decode cX13_feed 69 = .ok (.iload 4, 2) := by decide +kernel
theorem dX13_feed_71 : decode cX13_feed 71 = .ok (.goto 5, 3) := by decide +kernel
theorem dX13_feed_74 : decode cX13_feed 74 = .ok (.iload 5, 2) := by decide +kernel
theorem dX13_feed_76 : decode cX13_feed 76 = .ok (.istore 7, 2) := by decide +kernel
theorem dX13_feed_78 : decode cX13_feed 78 = .ok (.aload_n 0, 1) := by decide +kernel
theorem dX13_feed_79 : decode cX13_feed 79 = .ok (.getfield 13, 3) := by decide +kernel
theorem dX13_feed_82 : decode cX13_feed 82 = .ok (.aload_n 0, 1) := by decide +kernel
theorem dX13_feed_83 : decode cX13_feed 83 = .ok (.getfield 328, 3) := by decide +kernel
theorem dX13_feed_86 : decode cX13_feed 86 = .ok (.iload 7, 2) := by decide +kernel
theorem dX13_feed_88 : decode cX13_feed 88 = .ok (.bipush 24, 2) := by decide +kernel
theorem dX13_feed_90 : decode cX13_feed 90 = .ok (.bipush 8, 2) := by decide +kernel
theorem dX13_feed_92 : decode cX13_feed 92 = .ok (.iload 6, 2) := by decide +kernel
theorem dX13_feed_94 : decode cX13_feed 94 = .ok (.iconst 4, 1) := by decide +kernel
theorem dX13_feed_95 : decode cX13_feed 95 = .ok (.irem, 1) := by decide +kernel
theorem dX13_feed_96 : decode cX13_feed 96 = .ok (.imul, 1) := by decide +kernel
theorem dX13_feed_97 : decode cX13_feed 97 = .ok (.isub, 1) := by decide +kernel
theorem dX13_feed_98 : decode cX13_feed 98 = .ok (.ishr, 1) := by decide +kernel
theorem dX13_feed_99 : decode cX13_feed 99 = .ok (.i2b, 1) := by decide +kernel
theorem dX13_feed_100 : decode cX13_feed 100 = .ok (.bastore, 1) := by decide +kernel
theorem dX13_feed_101 : decode cX13_feed 101 = .ok (.aload_n 0, 1) := by decide +kernel
theorem dX13_feed_102 : decode cX13_feed 102 = .ok (.dup, 1) := by decide +kernel
theorem dX13_feed_103 : decode cX13_feed 103 = .ok (.getfield 328, 3) := by decide +kernel
theorem dX13_feed_106 : decode cX13_feed 106 = .ok (.iconst 1, 1) := by decide +kernel
theorem dX13_feed_107 : decode cX13_feed 107 = .ok (.iadd, 1) := by decide +kernel
theorem dX13_feed_108 : decode cX13_feed 108 = .ok (.putfield 328, 3) := by decide +kernel
theorem dX13_feed_111 : decode cX13_feed 111 = .ok (.iinc 6 1, 3) := by decide +kernel
theorem dX13_feed_114 : decode cX13_feed 114 = .ok (.goto (-91), 3) := by decide +kernel
theorem dX13_feed_117 : decode cX13_feed 117 = .ok (.aload_n 0, 1) := by decide +kernel
theorem dX13_feed_118 : decode cX13_feed 118 = .ok (.getfield 328, 3) := by decide +kernel
theorem dX13_feed_121 : decode cX13_feed 121 = .ok (.ireturn, 1) := by decide +kernel
theorem dX13_town_0 : decode cX13_town 0 = .ok (.aload_n 0, 1) := by decide +kernel
theorem dX13_town_1 : decode cX13_town 1 = .ok (.iconst 0, 1) := by decide +kernel
theorem dX13_town_2 : decode cX13_town 2 = .ok (.putfield 51, 3) := by decide +kernel
theorem dX13_town_5 : decode cX13_town 5 = .ok (.iload_n 1, 1) := by decide +kernel
theorem dX13_town_6 : decode cX13_town 6 = .ok (.ifCond .lt 11, 3) := by decide +kernel
theorem dX13_town_9 : decode cX13_town 9 = .ok (.iload_n 1, 1) := by decide +kernel
theorem dX13_town_10 : decode cX13_town 10 = .ok (.aload_n 0, 1) := by decide +kernel
theorem dX13_town_11 : decode cX13_town 11 = .ok (.getfield 328, 3) := by decide +kernel
theorem dX13_town_14 : decode cX13_town 14 = .ok (.if_icmp .le 9, 3) := by decide +kernel
theorem dX13_town_17 : decode cX13_town 17 = .ok (.aload_n 0, 1) := by decide +kernel
theorem dX13_town_18 : decode cX13_town 18 = .ok (.iconst 2, 1) := by decide +kernel
theorem dX13_town_19 : decode cX13_town 19 = .ok (.invokevirtual 57, 3) := by decide +kernel
theorem dX13_town_22 : decode cX13_town 22 = .ok (.ireturn, 1) := by decide +kernel
