theorem dX6_init_0 : decode cX6_init 0 = .ok (.aload_n 0, 1) := by decide +kernel
theorem dX6_init_1 : decode cX6_init 1 = .ok (.invokespecial 3, 3) := by decide +kernel
theorem dX6_init_4 : decode cX6_init 4 = .ok (.aload_n 0, 1) := by decide +kernel
theorem dX6_init_5 : decode cX6_init 5 = .ok (.iconst 0, 1) := by decide +kernel
theorem dX6_init_6 : decode cX6_init 6 = .ok (.putfield 9, 3) := by decide +kernel
theorem dX6_init_9 : decode cX6_init 9 = .ok (.aload_n 0, 1) := by decide +kernel
theorem dX6_init_10 : decode cX6_init 10 = .ok (.iconst 0, 1) := by decide +kernel
theorem dX6_init_11 : decode cX6_init 11 = .ok (.putfield 15, 3) := by decide +kernel
theorem dX6_init_14 : decode cX6_init 14 = .ok (.aload_n 0, 1) := by decide +kernel
theorem dX6_init_15 : decode cX6_init 15 = .ok (.iconst 0, 1) := by decide +kernel
theorem dX6_init_16 : decode cX6_init 16 = .ok (.newarray .byte, 2) := by decide +kernel
theorem dX6_init_18 : decode cX6_init 18 = .ok (.putfield 18, 3) := by decide +kernel
theorem dX6_init_21 : decode cX6_init 21 = .ok (.aload_n 0, 1) := by decide +kernel
theorem dX6_init_22 : decode cX6_init 22 = .ok (.iconst 0, 1) := by decide +kernel
theorem dX6_init_23 : decode cX6_init 23 = .ok (.putfield 22, 3) := by decide +kernel
theorem dX6_init_26 : decode cX6_init 26 = .ok (.aload_n 0, 1) := by decide +kernel
theorem dX6_init_27 : decode cX6_init 27 = .ok (.iconst 0, 1) := by decide +kernel
theorem dX6_init_28 : decode cX6_init 28 = .ok (.putfield 25, 3) := by decide +kernel
theorem dX6_init_31 : decode cX6_init 31 = .ok (.aload_n 0, 1) := by decide +kernel
theorem dX6_init_32 : decode cX6_init 32 = .ok (.iconst 0, 1) := by decide +kernel
theorem dX6_init_33 : decode cX6_init 33 = .ok (.putfield 28, 3) := by decide +kernel
theorem dX6_init_36 : decode cX6_init 36 = .ok (.aload_n 0, 1) := by decide +kernel
theorem dX6_init_37 : decode cX6_init 37 = .ok (.iconst 0, 1) := by decide +kernel
theorem dX6_init_38 : decode cX6_init 38 = .ok (.putfield 31, 3) := by decide +kernel
theorem dX6_init_41 : decode cX6_init 41 = .ok (.aload_n 0, 1) := by decide +kernel
theorem dX6_init_42 : decode cX6_init 42 = .ok (.lconst 0, 1) := by decide +kernel
theorem dX6_init_43 : decode cX6_init 43 = .ok (.putfield 34, 3) := by decide +kernel
theorem dX6_init_46 : decode cX6_init 46 = .ok (.aload_n 0, 1) := by decide +kernel
theorem dX6_init_47 : decode cX6_init 47 = .ok (.iconst 0, 1) := by decide +kernel
theorem dX6_init_48 : decode cX6_init 48 = .ok (.putfield 38, 3) := by decide +kernel
theorem dX6_init_51 : decode cX6_init 51 = .ok (.aload_n 0, 1) := by decide +kernel
theorem dX6_init_52 : decode cX6_init 52 = .ok (.bipush 7, 2) := by decide +kernel
theorem dX6_init_54 : decode cX6_init 54 = .ok (.newarray .long, 2) := by decide +kernel
theorem dX6_init_56 : decode cX6_init 56 = .ok (.putfield 41, 3) := by decide +kernel
theorem dX6_init_59 : decode cX6_init 59 = .ok (.aload_n 0, 1) := by decide +kernel
theorem dX6_init_60 : decode cX6_init 60 = .ok (.bipush 17, 2) := by decide +kernel
theorem dX6_init_62 : decode cX6_init 62 = .ok (.newarray .long, 2) := by decide +kernel
theorem dX6_init_64 : decode cX6_init 64 = .ok (.putfield 45, 3) := by decide +kernel
theorem dX6_init_67 : decode cX6_init 67 = .ok (.aload_n 0, 1) := by decide +kernel
theorem dX6_init_68 : decode cX6_init 68 = .ok (.bipush 17, 2) := by decide +kernel
theorem dX6_init_70 : decode cX6_init 70 = .ok (.newarray .int, 2) := by decide +kernel
theorem dX6_init_72 : decode cX6_init 72 = .ok (.putfield 48, 3) := by decide +kernel
theorem dX6_init_75 : decode cX6_init 75 = .ok (.aload_n 0, 1) := by decide +kernel
theorem dX6_init_76 : decode cX6_init 76 = .ok (.bipush 17, 2) := by decide +kernel
theorem dX6_init_78 : decode cX6_init 78 = .ok (.newarray .int, 2) := by decide +kernel
theorem dX6_init_80 : decode cX6_init 80 = .ok (.putfield 52, 3) := by decide +kernel
theorem dX6_init_83 : decode cX6_init 83 = .ok (.aload_n 0, 1) := by decide +kernel
theorem dX6_init_84 : decode cX6_init 84 = .ok (.iconst 0, 1) := by decide +kernel
theorem dX6_init_85 : decode cX6_init 85 = .ok (.putfield 55, 3) := by decide +kernel
theorem dX6_init_88 : decode cX6_init 88 = .ok (.aload_n 0, 1) := by decide +kernel
theorem dX6_init_89 : decode cX6_init 89 = .ok (.getfield 41, 3) := by decide +kernel
theorem dX6_init_92 : decode cX6_init 92 = .ok (.iconst 0, 1) := by decide +kernel
theorem dX6_init_93 : decode cX6_init 93 = .ok (.ldc 58, 2) := by decide +kernel
theorem dX6_init_95 : decode cX6_init 95 = .ok (.invokestatic 60, 3) := by decide +kernel
theorem dX6_init_98 : decode cX6_init 98 = .ok (.lastore, 1) := by decide +kernel
theorem dX6_init_99 : decode cX6_init 99 = .ok (.aload_n 0, 1) := by decide +kernel
theorem dX6_init_100 : decode cX6_init 100 = .ok (.getfield 41, 3) := by decide +kernel
theorem dX6_init_103 : decode cX6_init 103 = .ok (.iconst 1, 1) := by decide +kernel
theorem dX6_init_104 : decode cX6_init 104 = .ok (.ldc 64, 2) := by decide +kernel
theorem dX6_init_106 : decode cX6_init 106 = .ok (.invokestatic 60, 3) := by decide +kernel
theorem dX6_init_109 : decode cX6_init 109 = .ok (.lastore, 1) := by decide +kernel
theorem dX6_init_110 : decode cX6_init 110 = .ok (.aload_n 0, 1) := by decide +kernel
theorem dX6_init_111 : decode cX6_init 111 = .ok (.getfield 41, 3) := by decide +kernel
theorem dX6_init_114 : decode cX6_init 114 = .ok (.iconst 2, 1) := by decide +kernel
theorem dX6_init_115 : decode cX6_init 115 = .ok (.ldc 66, 2) := by decide +kernel
theorem dX6_init_117 : decode cX6_init 117 = .ok (.invokestatic 60, 3) := by decide +kernel
theorem dX6_init_120 : decode cX6_init 120 = .ok (.lastore, 1) := by decide +kernel
theorem dX6_init_121 : decode cX6_init 121 = .ok (.aload_n 0, 1) := by decide +kernel
theorem dX6_init_122 : decode cX6_init 122 = .ok (.getfield 41, 3) := by decide +kernel
theorem dX6_init_125 : decode cX6_init 125 = .ok (.iconst 3, 1) := by decide +kernel
theorem dX6_init_126 : decode cX6_init 126 = .ok (.ldc 68, 2) := by decide +kernel
theorem dX6_init_128 : decode cX6_init 128 = .ok (.invokestatic 60, 3) := by decide +kernel
theorem dX6_init_131 : decode cX6_init 131 = .ok (.lastore, 1) := by decide +kernel
theorem dX6_init_132 : decode cX6_init 132 = .ok (.aload_n 0, 1) := by decide +kernel
theorem dX6_init_133 : decode cX6_init 133 = .ok (.getfield 41, 3) := by decide +kernel
theorem dX6_init_136 : decode cX6_init 136 = .ok (.iconst 4, 1) := by decide +kernel
theorem dX6_init_137 : decode cX6_init 137 = .ok (.ldc 70, 2) := by decide +kernel
theorem dX6_init_139 : decode cX6_init 139 = .ok (.invokestatic 60, 3) := by decide +kernel
theorem dX6_init_142 : decode cX6_init 142 = .ok (.lastore, 1) := by decide +kernel
theorem dX6_init_143 : decode cX6_init 143 = .ok (.aload_n 0, 1) := by decide +kernel
theorem dX6_init_144 : decode cX6_init 144 = .ok (.getfield 41, 3) := by decide +kernel
theorem dX6_init_147 : decode cX6_init 147 = .ok (.iconst 5, 1) := by decide +kernel
theorem dX6_init_148 : decode cX6_init 148 = .ok (.ldc 72, 2) := by decide +kernel
theorem dX6_init_150 : decode cX6_init 150 = .ok (.invokestatic 60, 3) := by decide +kernel
theorem dX6_init_153 : decode cX6_init 153 = .ok (.lastore, 1) := by decide +kernel
theorem dX6_init_154 : decode cX6_init 154 = .ok (.aload_n 0, 1) := by decide +kernel
theorem dX6_init_155 : decode cX6_init 155 = .ok (.getfield 41, 3) := by decide +kernel
theorem dX6_init_158 : decode cX6_init 158 = .ok (.bipush 6, 2) := by decide +kernel
theorem dX6_init_160 : decode cX6_init 160 = .ok (.ldc 74, 2) := by decide +kernel
theorem dX6_init_162 : decode cX6_init 162 = .ok (.invokestatic 60, 3) := by decide +kernel
theorem dX6_init_165 : decode cX6_init 165 = .ok (.lastore, 1) := by decide +kernel
theorem dX6_init_166 : decode cX6_init 166 = .ok (.return_, 1) := by decide +kernel
theorem dX6_reads_0 : decode cX6_reads 0 = .ok (.aload_n 0, 1) := by decide +kernel
theorem dX6_reads_1 : decode cX6_reads 1 = .ok (.aload_n 1, 1) := by decide +kernel
theorem dX6_reads_2 : decode cX6_reads 2 = .ok (.putfield 18, 3) := by decide +kernel
theorem dX6_reads_5 : decode cX6_reads 5 = .ok (.aload_n 0, 1) := by decide +kernel
theorem dX6_reads_6 : decode cX6_reads 6 = .ok (.iload_n 2, 1) := by decide +kernel
theorem dX6_reads_7 : decode cX6_reads 7 = .ok (.aload_n 1, 1) := by decide +kernel
theorem dX6_reads_8 : decode cX6_reads 8 = .ok (.arraylength, 1) := by decide +kernel
theorem dX6_reads_9 : decode cX6_reads 9 = .ok (.invokestatic 76, 3) := by decide +kernel
theorem dX6_reads_12 : decode cX6_reads 12 = .ok (.putfield 22, 3) := by decide +kernel
theorem dX6_reads_15 : decode cX6_reads 15 = .ok (.aload_n 0, 1) := by decide +kernel
theorem dX6_reads_16 : decode cX6_reads 16 = .ok (.iconst 0, 1) := by decide +kernel
theorem dX6_reads_17 : decode cX6_reads 17 = .ok (.putfield 28, 3) := by decide +kernel
theorem dX6_reads_20 : decode cX6_reads 20 = .ok (.aload_n 0, 1) := by decide +kernel
theorem dX6_reads_21 : decode cX6_reads 21 = .ok (.iconst 0, 1) := by decide +kernel
theorem dX6_reads_22 : decode cX6_reads 22 = .ok (.putfield 55, 3) := by decide +kernel
theorem dX6_reads_25 : decode cX6_reads 25 = .ok (.aload_n 3, 1) := by decide +kernel
theorem dX6_reads_26 : decode cX6_reads 26 = .ok (.invokevirtual 82, 3) := by decide +kernel
theorem dX6_reads_29 : decode cX6_reads 29 = .ok (.aload_n 0, 1) := by decide +kernel
theorem dX6_reads_30 : decode cX6_reads 30 = .ok (.invokevirtual 87, 3) := by decide +kernel
theorem dX6_reads_33 : decode cX6_reads 33 = .ok (.iconst 0, 1) := by decide +kernel
theorem dX6_reads_34 : decode cX6_reads 34 = .ok (.istore 4, 2) := by decide +kernel
theorem dX6_reads_36 : decode cX6_reads 36 = .ok (.iload 4, 2) := by decide +kernel
theorem dX6_reads_38 : decode cX6_reads 38 = .ok (.aload_n 0, 1) := by decide +kernel
theorem dX6_reads_39 : decode cX6_reads 39 = .ok (.getfield 22, 3) := by decide +kernel
theorem dX6_reads_42 : decode cX6_reads 42 = .ok (.if_icmp .ge 50, 3) := by decide +kernel
theorem dX6_reads_45 : decode cX6_reads 45 = .ok (.aload_n 0, 1) := by decide +kernel
theorem dX6_reads_46 : decode cX6_reads 46 = .ok (.aload_n 3, 1) := by decide +kernel
theorem dX6_reads_47 : decode cX6_reads 47 = .ok (.invokevirtual 90, 3) := by decide +kernel
theorem dX6_reads_50 : decode cX6_reads 50 = .ok (.ifCond .ne 5, 3) := by decide +kernel
theorem dX6_reads_53 : decode cX6_reads 53 = .ok (.iconst 0, 1) := by decide +kernel
theorem dX6_reads_54 : decode cX6_reads 54 = .ok (.ireturn, 1) := by decide +kernel
theorem dX6_reads_55 : decode cX6_reads 55 = .ok (.aload_n 0, 1) := by decide +kernel
theorem dX6_reads_56 : decode cX6_reads 56 = .ok (.getfield 31, 3) := by decide +kernel
theorem dX6_reads_59 : decode cX6_reads 59 = .ok (.ifCond .ne 9, 3) := by decide +kernel
theorem dX6_reads_62 : decode cX6_reads 62 = .ok (.aload_n 0, 1) := by decide +kernel
theorem dX6_reads_63 : decode cX6_reads 63 = .ok (.aload_n 3, 1) := by decide +kernel
theorem dX6_reads_64 : decode cX6_reads 64 = .ok (.invokevirtual 94, 3) := by decide +kernel
theorem dX6_reads_67 : decode cX6_reads 67 = .ok (.ireturn, 1) := by decide +kernel
theorem dX6_reads_68 : decode cX6_reads 68 = .ok (.aload_n 0, 1) := by decide +kernel
theorem dX6_reads_69 : decode cX6_reads 69 = .ok (.getfield 31, 3) := by decide +kernel
theorem dX6_reads_72 : decode cX6_reads 72 = .ok (.iconst 3, 1) := by decide +kernel
theorem dX6_reads_73 : decode cX6_reads 73 = .ok (.if_icmp .eq 9, 3) := by decide +kernel
theorem dX6_reads_76 : decode cX6_reads 76 = .ok (.aload_n 0, 1) := by decide +kernel
theorem dX6_reads_77 : decode cX6_reads 77 = .ok (.iconst 1, 1) := by decide +kernel
theorem dX6_reads_78 : decode cX6_reads 78 = .ok (.invokevirtual 97, 3) := by decide +kernel
theorem dX6_reads_81 : decode cX6_reads 81 = .ok (.ireturn, 1) := by decide +kernel
theorem dX6_reads_82 : decode cX6_reads 82 = .ok (.aload_n 0, 1) := by decide +kernel
theorem dX6_reads_83 : decode cX6_reads 83 = .ok (.invokevirtual 87, 3) := by decide +kernel
theorem dX6_reads_86 : decode cX6_reads 86 = .ok (.iinc 4 1, 3) := by decide +kernel
theorem dX6_reads_89 : decode cX6_reads 89 = .ok (.goto (-53), 3) := by decide +kernel
theorem dX6_reads_92 : decode cX6_reads 92 = .ok (.aload_n 0, 1) := by decide +kernel
theorem dX6_reads_93 : decode cX6_reads 93 = .ok (.iconst 1, 1) := by decide +kernel
theorem dX6_reads_94 : decode cX6_reads 94 = .ok (.invokevirtual 97, 3) := by decide +kernel
theorem dX6_reads_97 : decode cX6_reads 97 = .ok (.ireturn, 1) := by decide +kernel
theorem dX6_endsWell_0 : decode cX6_endsWell 0 = .ok (.aload_n 1, 1) := by decide +kernel
theorem dX6_endsWell_1 : decode cX6_endsWell 1 = .ok (.getfield 101, 3) := by decide +kernel
theorem dX6_endsWell_4 : decode cX6_endsWell 4 = .ok (.ifCond .eq 10, 3) := by decide +kernel
theorem dX6_endsWell_7 : decode cX6_endsWell 7 = .ok (.aload_n 1, 1) := by decide +kernel
theorem dX6_endsWell_8 : decode cX6_endsWell 8 = .ok (.getfield 104, 3) := by decide +kernel
theorem dX6_endsWell_11 : decode cX6_endsWell 11 = .ok (.ifCond .ne 10, 3) := by decide +kernel
theorem dX6_endsWell_14 : decode cX6_endsWell 14 = .ok (.aload_n 0, 1) := by decide +kernel
theorem dX6_endsWell_15 : decode cX6_endsWell 15 = .ok (.bipush 6, 2) := by decide +kernel
theorem dX6_endsWell_17 : decode cX6_endsWell 17 = .ok (.invokevirtual 97, 3) := by decide +kernel
theorem dX6_endsWell_20 : decode cX6_endsWell 20 = .ok (.ireturn, 1) := by decide +kernel
theorem dX6_endsWell_21 : decode cX6_endsWell 21 = .ok (.iconst 1, 1) := by decide +kernel
theorem dX6_endsWell_22 : decode cX6_endsWell 22 = .ok (.ireturn, 1) := by decide +kernel
theorem dX6_fails_0 : decode cX6_fails 0 = .ok (.aload_n 0, 1) := by decide +kernel
theorem dX6_fails_1 : decode cX6_fails 1 = .ok (.iload_n 1, 1) := by decide +kernel
theorem dX6_fails_2 : decode cX6_fails 2 = .ok (.putfield 9, 3) := by decide +kernel
theorem dX6_fails_5 : decode cX6_fails 5 = .ok (.aload_n 0, 1) := by decide +kernel
theorem dX6_fails_6 : decode cX6_fails 6 = .ok (.aload_n 0, 1) := by decide +kernel
theorem dX6_fails_7 : decode cX6_fails 7 = .ok (.getfield 25, 3) := by decide +kernel
theorem dX6_fails_10 : decode cX6_fails 10 = .ok (.putfield 15, 3) := by decide +kernel
theorem dX6_fails_13 : decode cX6_fails 13 = .ok (.iconst 0, 1) := by decide +kernel
theorem dX6_fails_14 : decode cX6_fails 14 = .ok (.ireturn, 1) := by decide +kernel
theorem dX6_step_0 : decode cX6_step 0 = .ok (.aload_n 0, 1) := by decide +kernel
theorem dX6_step_1 : decode cX6_step 1 = .ok (.aload_n 0, 1) := by decide +kernel
theorem dX6_step_2 : decode cX6_step 2 = .ok (.getfield 28, 3) := by decide +kernel
theorem dX6_step_5 : decode cX6_step 5 = .ok (.putfield 25, 3) := by decide +kernel
theorem dX6_step_8 : decode cX6_step 8 = .ok (.aload_n 0, 1) := by decide +kernel
theorem dX6_step_9 : decode cX6_step 9 = .ok (.getfield 25, 3) := by decide +kernel
theorem dX6_step_12 : decode cX6_step 12 = .ok (.aload_n 0, 1) := by decide +kernel
theorem dX6_step_13 : decode cX6_step 13 = .ok (.getfield 22, 3) := by decide +kernel
theorem dX6_step_16 : decode cX6_step 16 = .ok (.if_icmp .ge 30, 3) := by decide +kernel
theorem dX6_step_19 : decode cX6_step 19 = .ok (.aload_n 0, 1) := by decide +kernel
theorem dX6_step_20 : decode cX6_step 20 = .ok (.getfield 18, 3) := by decide +kernel
theorem dX6_step_23 : decode cX6_step 23 = .ok (.aload_n 0, 1) := by decide +kernel
theorem dX6_step_24 : decode cX6_step 24 = .ok (.getfield 25, 3) := by decide +kernel
theorem dX6_step_27 : decode cX6_step 27 = .ok (.baload, 1) := by decide +kernel
theorem dX6_step_28 : decode cX6_step 28 = .ok (.bipush 32, 2) := by decide +kernel
theorem dX6_step_30 : decode cX6_step 30 = .ok (.if_icmp .ne 16, 3) := by decide +kernel
theorem dX6_step_33 : decode cX6_step 33 = .ok (.aload_n 0, 1) := by decide +kernel
theorem dX6_step_34 : decode cX6_step 34 = .ok (.dup, 1) := by decide +kernel
theorem dX6_step_35 : decode cX6_step 35 = .ok (.getfield 25, 3) := by decide +kernel
theorem dX6_step_38 : decode cX6_step 38 = .ok (.iconst 1, 1) := by decide +kernel
theorem dX6_step_39 : decode cX6_step 39 = .ok (.iadd, 1) := by decide +kernel
theorem dX6_step_40 : decode cX6_step 40 = .ok (.putfield 25, 3) := by decide +kernel
theorem dX6_step_43 : decode cX6_step 43 = .ok (.goto (-35), 3) := by decide +kernel
theorem dX6_step_46 : decode cX6_step 46 = .ok (.aload_n 0, 1) := by decide +kernel
theorem dX6_step_47 : decode cX6_step 47 = .ok (.aload_n 0, 1) := by decide +kernel
theorem dX6_step_48 : decode cX6_step 48 = .ok (.getfield 25, 3) := by decide +kernel
theorem dX6_step_51 : decode cX6_step 51 = .ok (.putfield 28, 3) := by decide +kernel
theorem dX6_step_54 : decode cX6_step 54 = .ok (.aload_n 0, 1) := by decide +kernel
theorem dX6_step_55 : decode cX6_step 55 = .ok (.lconst 0, 1) := by decide +kernel
theorem dX6_step_56 : decode cX6_step 56 = .ok (.putfield 34, 3) := by decide +kernel
theorem dX6_step_59 : decode cX6_step 59 = .ok (.aload_n 0, 1) := by decide +kernel
theorem dX6_step_60 : decode cX6_step 60 = .ok (.getfield 25, 3) := by decide +kernel
theorem dX6_step_63 : decode cX6_step 63 = .ok (.aload_n 0, 1) := by decide +kernel
theorem dX6_step_64 : decode cX6_step 64 = .ok (.getfield 22, 3) := by decide +kernel
theorem dX6_step_67 : decode cX6_step 67 = .ok (.if_icmp .lt 11, 3) := by decide +kernel
theorem dX6_step_70 : decode cX6_step 70 = .ok (.aload_n 0, 1) := by decide +kernel
theorem dX6_step_71 : decode cX6_step 71 = .ok (.iconst 0, 1) := by decide +kernel
theorem dX6_step_72 : decode cX6_step 72 = .ok (.putfield 31, 3) := by decide +kernel
theorem dX6_step_75 : decode cX6_step 75 = .ok (.goto 80, 3) := by decide +kernel
theorem dX6_step_78 : decode cX6_step 78 = .ok (.aload_n 0, 1) := by decide +kernel
theorem dX6_step_79 : decode cX6_step 79 = .ok (.getfield 18, 3) := by decide +kernel
theorem dX6_step_82 : decode cX6_step 82 = .ok (.aload_n 0, 1) := by decide +kernel
theorem dX6_step_83 : decode cX6_step 83 = .ok (.getfield 25, 3) := by decide +kernel
theorem dX6_step_86 : decode cX6_step 86 = .ok (.baload, 1) := by decide +kernel
theorem dX6_step_87 : decode cX6_step 87 = .ok (.invokestatic 107, 3) := by decide +kernel
theorem dX6_step_90 : decode cX6_step 90 = .ok (.ifCond .eq 10, 3) := by decide +kernel
theorem dX6_step_93 : decode cX6_step 93 = .ok (.aload_n 0, 1) := by decide +kernel
theorem dX6_step_94 : decode cX6_step 94 = .ok (.invokevirtual 111, 3) := by decide +kernel
theorem dX6_step_97 : decode cX6_step 97 = .ok (.goto 58, 3) := by decide +kernel
theorem dX6_step_100 : decode cX6_step 100 = .ok (.aload_n 0, 1) := by decide +kernel
theorem dX6_step_101 : decode cX6_step 101 = .ok (.getfield 18, 3) := by decide +kernel
theorem dX6_step_104 : decode cX6_step 104 = .ok (.aload_n 0, 1) := by decide +kernel
theorem dX6_step_105 : decode cX6_step 105 = .ok (.getfield 25, 3) := by decide +kernel
theorem dX6_step_108 : decode cX6_step 108 = .ok (.baload, 1) := by decide +kernel
theorem dX6_step_109 : decode cX6_step 109 = .ok (.invokestatic 114, 3) := by decide +kernel
theorem dX6_step_112 : decode cX6_step 112 = .ok (.ifCond .eq 10, 3) := by decide +kernel
theorem dX6_step_115 : decode cX6_step 115 = .ok (.aload_n 0, 1) := by decide +kernel
theorem dX6_step_116 : decode cX6_step 116 = .ok (.invokevirtual 117, 3) := by decide +kernel
theorem dX6_step_119 : decode cX6_step 119 = .ok (.goto 36, 3) := by decide +kernel
theorem dX6_step_122 : decode cX6_step 122 = .ok (.aload_n 0, 1) := by decide +kernel
theorem dX6_step_123 : decode cX6_step 123 = .ok (.aload_n 0, 1) := by decide +kernel
theorem dX6_step_124 : decode cX6_step 124 = .ok (.getfield 18, 3) := by decide +kernel
theorem dX6_step_127 : decode cX6_step 127 = .ok (.aload_n 0, 1) := by decide +kernel
theorem dX6_step_128 : decode cX6_step 128 = .ok (.getfield 25, 3) := by decide +kernel
theorem dX6_step_131 : decode cX6_step 131 = .ok (.baload, 1) := by decide +kernel
theorem dX6_step_132 : decode cX6_step 132 = .ok (.bipush 59, 2) := by decide +kernel
theorem dX6_step_134 : decode cX6_step 134 = .ok (.if_icmp .ne 7, 3) := by decide +kernel
theorem dX6_step_137 : decode cX6_step 137 = .ok (.iconst 3, 1) := by decide +kernel
theorem dX6_step_138 : decode cX6_step 138 = .ok (.goto 4, 3) := by decide +kernel
theorem dX6_step_141 : decode cX6_step 141 = .ok (.iconst 4, 1) := by decide +kernel
theorem dX6_step_142 : decode cX6_step 142 = .ok (.putfield 31, 3) := by decide +kernel
theorem dX6_step_145 : decode cX6_step 145 = .ok (.aload_n 0, 1) := by decide +kernel
theorem dX6_step_146 : decode cX6_step 146 = .ok (.aload_n 0, 1) := by decide +kernel
theorem dX6_step_147 : decode cX6_step 147 = .ok (.getfield 25, 3) := by decide +kernel
theorem dX6_step_150 : decode cX6_step 150 = .ok (.iconst 1, 1) := by decide +kernel
theorem dX6_step_151 : decode cX6_step 151 = .ok (.iadd, 1) := by decide +kernel
theorem dX6_step_152 : decode cX6_step 152 = .ok (.putfield 28, 3) := by decide +kernel
theorem dX6_step_155 : decode cX6_step 155 = .ok (.return_, 1) := by decide +kernel
theorem dX6_stepWord_0 : decode cX6_stepWord 0 = .ok (.aload_n 0, 1) := by decide +kernel
theorem dX6_stepWord_1 : decode cX6_stepWord 1 = .ok (.getfield 28, 3) := by decide +kernel
theorem dX6_stepWord_4 : decode cX6_stepWord 4 = .ok (.aload_n 0, 1) := by decide +kernel
theorem dX6_stepWord_5 : decode cX6_stepWord 5 = .ok (.getfield 22, 3) := by decide +kernel
theorem dX6_stepWord_8 : decode cX6_stepWord 8 = .ok (.if_icmp .ge 59, 3) := by decide +kernel
theorem dX6_stepWord_11 : decode cX6_stepWord 11 = .ok (.aload_n 0, 1) := by decide +kernel
theorem dX6_stepWord_12 : decode cX6_stepWord 12 = .ok (.getfield 18, 3) := by decide +kernel
theorem dX6_stepWord_15 : decode cX6_stepWord 15 = .ok (.aload_n 0, 1) := by decide +kernel
theorem dX6_stepWord_16 : decode cX6_stepWord 16 = .ok (.getfield 28, 3) := by decide +kernel
theorem dX6_stepWord_19 : decode cX6_stepWord 19 = .ok (.baload, 1) := by decide +kernel
theorem dX6_stepWord_20 : decode cX6_stepWord 20 = .ok (.invokestatic 107, 3) := by decide +kernel
theorem dX6_stepWord_23 : decode cX6_stepWord 23 = .ok (.ifCond .eq 44, 3) := by decide +kernel
theorem dX6_stepWord_26 : decode cX6_stepWord 26 = .ok (.aload_n 0, 1) := by decide +kernel
theorem dX6_stepWord_27 : decode cX6_stepWord 27 = .ok (.ldc2_w 120, 3) := by decide +kernel
theorem dX6_stepWord_30 : decode cX6_stepWord 30 = .ok (.aload_n 0, 1) := by decide +kernel
theorem dX6_stepWord_31 : decode cX6_stepWord 31 = .ok (.getfield 34, 3) := by decide +kernel
theorem dX6_stepWord_34 : decode cX6_stepWord 34 = .ok (.lmul, 1) := by decide +kernel
theorem dX6_stepWord_35 : decode cX6_stepWord 35 = .ok (.aload_n 0, 1) := by decide +kernel
theorem dX6_stepWord_36 : decode cX6_stepWord 36 = .ok (.getfield 18, 3) := by decide +kernel
theorem dX6_stepWord_39 : decode cX6_stepWord 39 = .ok (.aload_n 0, 1) := by decide +kernel
theorem dX6_stepWord_40 : decode cX6_stepWord 40 = .ok (.getfield 28, 3) := by decide +kernel
theorem dX6_stepWord_43 : decode cX6_stepWord 43 = .ok (.baload, 1) := by decide +kernel
theorem dX6_stepWord_44 : decode cX6_stepWord 44 = .ok (.bipush 97, 2) := by decide +kernel
theorem dX6_stepWord_46 : decode cX6_stepWord 46 = .ok (.isub, 1) := by decide +kernel
theorem dX6_stepWord_47 : decode cX6_stepWord 47 = .ok (.iconst 1, 1) := by decide +kernel
theorem dX6_stepWord_48 : decode cX6_stepWord 48 = .ok (.iadd, 1) := by decide +kernel
theorem dX6_stepWord_49 : decode cX6_stepWord 49 = .ok (.i2l, 1) := by decide +kernel
theorem dX6_stepWord_50 : decode cX6_stepWord 50 = .ok (.ladd, 1) := by decide +kernel
theorem dX6_stepWord_51 : decode cX6_stepWord 51 = .ok (.putfield 34, 3) := by decide +kernel
theorem dX6_stepWord_54 : decode cX6_stepWord 54 = .ok (.aload_n 0, 1) := by decide +kernel
theorem dX6_stepWord_55 : decode cX6_stepWord 55 = .ok (.dup, 1) := by decide +kernel
theorem dX6_stepWord_56 : decode cX6_stepWord 56 = .ok (.getfield 28, 3) := by decide +kernel
theorem dX6_stepWord_59 : decode cX6_stepWord 59 = .ok (.iconst 1, 1) := by decide +kernel
theorem dX6_stepWord_60 : decode cX6_stepWord 60 = .ok (.iadd, 1) := by decide +kernel
theorem dX6_stepWord_61 : decode cX6_stepWord 61 = .ok (.putfield 28, 3) := by decide +kernel
theorem dX6_stepWord_64 : decode cX6_stepWord 64 = .ok (.goto (-64), 3) := by decide +kernel
theorem dX6_stepWord_67 : decode cX6_stepWord 67 = .ok (.aload_n 0, 1) := by decide +kernel
theorem dX6_stepWord_68 : decode cX6_stepWord 68 = .ok (.aload_n 0, 1) := by decide +kernel
theorem dX6_stepWord_69 : decode cX6_stepWord 69 = .ok (.getfield 28, 3) := by decide +kernel
theorem dX6_stepWord_72 : decode cX6_stepWord 72 = .ok (.aload_n 0, 1) := by decide +kernel
theorem dX6_stepWord_73 : decode cX6_stepWord 73 = .ok (.getfield 25, 3) := by decide +kernel
theorem dX6_stepWord_76 : decode cX6_stepWord 76 = .ok (.isub, 1) := by decide +kernel
theorem dX6_stepWord_77 : decode cX6_stepWord 77 = .ok (.bipush 8, 2) := by decide +kernel
theorem dX6_stepWord_79 : decode cX6_stepWord 79 = .ok (.if_icmp .gt 7, 3) := by decide +kernel
theorem dX6_stepWord_82 : decode cX6_stepWord 82 = .ok (.iconst 1, 1) := by decide +kernel
theorem dX6_stepWord_83 : decode cX6_stepWord 83 = .ok (.goto 4, 3) := by decide +kernel
theorem dX6_stepWord_86 : decode cX6_stepWord 86 = .ok (.iconst 4, 1) := by decide +kernel
theorem dX6_stepWord_87 : decode cX6_stepWord 87 = .ok (.putfield 31, 3) := by decide +kernel
theorem dX6_stepWord_90 : decode cX6_stepWord 90 = .ok (.return_, 1) := by decide +kernel
theorem dX6_stepWhole_0 : decode cX6_stepWhole 0 = .ok (.aload_n 0, 1) := by decide +kernel
theorem dX6_stepWhole_1 : decode cX6_stepWhole 1 = .ok (.getfield 28, 3) := by decide +kernel
theorem dX6_stepWhole_4 : decode cX6_stepWhole 4 = .ok (.aload_n 0, 1) := by decide +kernel
theorem dX6_stepWhole_5 : decode cX6_stepWhole 5 = .ok (.getfield 22, 3) := by decide +kernel
theorem dX6_stepWhole_8 : decode cX6_stepWhole 8 = .ok (.if_icmp .ge 57, 3) := by decide +kernel
theorem dX6_stepWhole_11 : decode cX6_stepWhole 11 = .ok (.aload_n 0, 1) := by decide +kernel
theorem dX6_stepWhole_12 : decode cX6_stepWhole 12 = .ok (.getfield 18, 3) := by decide +kernel
theorem dX6_stepWhole_15 : decode cX6_stepWhole 15 = .ok (.aload_n 0, 1) := by decide +kernel
theorem dX6_stepWhole_16 : decode cX6_stepWhole 16 = .ok (.getfield 28, 3) := by decide +kernel
theorem dX6_stepWhole_19 : decode cX6_stepWhole 19 = .ok (.baload, 1) := by decide +kernel
theorem dX6_stepWhole_20 : decode cX6_stepWhole 20 = .ok (.invokestatic 114, 3) := by decide +kernel
theorem dX6_stepWhole_23 : decode cX6_stepWhole 23 = .ok (.ifCond .eq 42, 3) := by decide +kernel
theorem dX6_stepWhole_26 : decode cX6_stepWhole 26 = .ok (.aload_n 0, 1) := by decide +kernel
theorem dX6_stepWhole_27 : decode cX6_stepWhole 27 = .ok (.ldc2_w 122, 3) := by decide +kernel
theorem dX6_stepWhole_30 : decode cX6_stepWhole 30 = .ok (.aload_n 0, 1) := by decide +kernel
theorem dX6_stepWhole_31 : decode cX6_stepWhole 31 = .ok (.getfield 34, 3) := by decide +kernel
theorem dX6_stepWhole_34 : decode cX6_stepWhole 34 = .ok (.lmul, 1) := by decide +kernel
theorem dX6_stepWhole_35 : decode cX6_stepWhole 35 = .ok (.aload_n 0, 1) := by decide +kernel
theorem dX6_stepWhole_36 : decode cX6_stepWhole 36 = .ok (.getfield 18, 3) := by decide +kernel
theorem dX6_stepWhole_39 : decode cX6_stepWhole 39 = .ok (.aload_n 0, 1) := by decide +kernel
theorem dX6_stepWhole_40 : decode cX6_stepWhole 40 = .ok (.getfield 28, 3) := by decide +kernel
theorem dX6_stepWhole_43 : decode cX6_stepWhole 43 = .ok (.baload, 1) := by decide +kernel
theorem dX6_stepWhole_44 : decode cX6_stepWhole 44 = .ok (.bipush 48, 2) := by decide +kernel
theorem dX6_stepWhole_46 : decode cX6_stepWhole 46 = .ok (.isub, 1) := by decide +kernel
theorem dX6_stepWhole_47 : decode cX6_stepWhole 47 = .ok (.i2l, 1) := by decide +kernel
theorem dX6_stepWhole_48 : decode cX6_stepWhole 48 = .ok (.ladd, 1) := by decide +kernel
theorem dX6_stepWhole_49 : decode cX6_stepWhole 49 = .ok (.putfield 34, 3) := by decide +kernel
theorem dX6_stepWhole_52 : decode cX6_stepWhole 52 = .ok (.aload_n 0, 1) := by decide +kernel
theorem dX6_stepWhole_53 : decode cX6_stepWhole 53 = .ok (.dup, 1) := by decide +kernel
theorem dX6_stepWhole_54 : decode cX6_stepWhole 54 = .ok (.getfield 28, 3) := by decide +kernel
theorem dX6_stepWhole_57 : decode cX6_stepWhole 57 = .ok (.iconst 1, 1) := by decide +kernel
theorem dX6_stepWhole_58 : decode cX6_stepWhole 58 = .ok (.iadd, 1) := by decide +kernel
theorem dX6_stepWhole_59 : decode cX6_stepWhole 59 = .ok (.putfield 28, 3) := by decide +kernel
theorem dX6_stepWhole_62 : decode cX6_stepWhole 62 = .ok (.goto (-62), 3) := by decide +kernel
theorem dX6_stepWhole_65 : decode cX6_stepWhole 65 = .ok (.aload_n 0, 1) := by decide +kernel
theorem dX6_stepWhole_66 : decode cX6_stepWhole 66 = .ok (.aload_n 0, 1) := by decide +kernel
theorem dX6_stepWhole_67 : decode cX6_stepWhole 67 = .ok (.getfield 28, 3) := by decide +kernel
theorem dX6_stepWhole_70 : decode cX6_stepWhole 70 = .ok (.aload_n 0, 1) := by decide +kernel
theorem dX6_stepWhole_71 : decode cX6_stepWhole 71 = .ok (.getfield 25, 3) := by decide +kernel
theorem dX6_stepWhole_74 : decode cX6_stepWhole 74 = .ok (.isub, 1) := by decide +kernel
theorem dX6_stepWhole_75 : decode cX6_stepWhole 75 = .ok (.iconst 3, 1) := by decide +kernel
theorem dX6_stepWhole_76 : decode cX6_stepWhole 76 = .ok (.if_icmp .gt 7, 3) := by decide +kernel
theorem dX6_stepWhole_79 : decode cX6_stepWhole 79 = .ok (.iconst 2, 1) := by decide +kernel
theorem dX6_stepWhole_80 : decode cX6_stepWhole 80 = .ok (.goto 4, 3) := by decide +kernel
theorem dX6_stepWhole_83 : decode cX6_stepWhole 83 = .ok (.iconst 4, 1) := by decide +kernel
theorem dX6_stepWhole_84 : decode cX6_stepWhole 84 = .ok (.putfield 31, 3) := by decide +kernel
theorem dX6_stepWhole_87 : decode cX6_stepWhole 87 = .ok (.return_, 1) := by decide +kernel
theorem dX6_isLetter_0 : decode cX6_isLetter 0 = .ok (.iload_n 0, 1) := by decide +kernel
theorem dX6_isLetter_1 : decode cX6_isLetter 1 = .ok (.bipush 97, 2) := by decide +kernel
theorem dX6_isLetter_3 : decode cX6_isLetter 3 = .ok (.if_icmp .lt 13, 3) := by decide +kernel
theorem dX6_isLetter_6 : decode cX6_isLetter 6 = .ok (.iload_n 0, 1) := by decide +kernel
theorem dX6_isLetter_7 : decode cX6_isLetter 7 = .ok (.bipush 122, 2) := by decide +kernel
theorem dX6_isLetter_9 : decode cX6_isLetter 9 = .ok (.if_icmp .gt 7, 3) := by decide +kernel
theorem dX6_isLetter_12 : decode cX6_isLetter 12 = .ok (.iconst 1, 1) := by decide +kernel
theorem dX6_isLetter_13 : decode cX6_isLetter 13 = .ok (.goto 4, 3) := by decide +kernel
theorem dX6_isLetter_16 : decode cX6_isLetter 16 = .ok (.iconst 0, 1) := by decide +kernel
theorem dX6_isLetter_17 : decode cX6_isLetter 17 = .ok (.ireturn, 1) := by decide +kernel
theorem dX6_isDigit_0 : decode cX6_isDigit 0 = .ok (.iload_n 0, 1) := by decide +kernel
theorem dX6_isDigit_1 : decode cX6_isDigit 1 = .ok (.bipush 48, 2) := by decide +kernel
theorem dX6_isDigit_3 : decode cX6_isDigit 3 = .ok (.if_icmp .lt 13, 3) := by decide +kernel
theorem dX6_isDigit_6 : decode cX6_isDigit 6 = .ok (.iload_n 0, 1) := by decide +kernel
theorem dX6_isDigit_7 : decode cX6_isDigit 7 = .ok (.bipush 57, 2) := by decide +kernel
theorem dX6_isDigit_9 : decode cX6_isDigit 9 = .ok (.if_icmp .gt 7, 3) := by decide +kernel
theorem dX6_isDigit_12 : decode cX6_isDigit 12 = .ok (.iconst 1, 1) := by decide +kernel
theorem dX6_isDigit_13 : decode cX6_isDigit 13 = .ok (.goto 4, 3) := by decide +kernel
theorem dX6_isDigit_16 : decode cX6_isDigit 16 = .ok (.iconst 0, 1) := by decide +kernel
theorem dX6_isDigit_17 : decode cX6_isDigit 17 = .ok (.ireturn, 1) := by decide +kernel
theorem dX6_code_0 : decode cX6_code 0 = .ok (.lconst 0, 1) := by decide +kernel
theorem dX6_code_1 : decode cX6_code 1 = .ok (.lstore_n 1, 1) := by decide +kernel
theorem dX6_code_2 : decode cX6_code 2 = .ok (.iconst 0, 1) := by decide +kernel
theorem dX6_code_3 : decode cX6_code 3 = .ok (.istore_n 3, 1) := by decide +kernel
theorem dX6_code_4 : decode cX6_code 4 = .ok (.iload_n 3, 1) := by decide +kernel
theorem dX6_code_5 : decode cX6_code 5 = .ok (.aload_n 0, 1) := by decide +kernel
theorem dX6_code_6 : decode cX6_code 6 = .ok (.invokevirtual 124, 3) := by decide +kernel
theorem dX6_code_9 : decode cX6_code 9 = .ok (.if_icmp .ge 27, 3) := by decide +kernel
theorem dX6_code_12 : decode cX6_code 12 = .ok (.ldc2_w 120, 3) := by decide +kernel
theorem dX6_code_15 : decode cX6_code 15 = .ok (.lload_n 1, 1) := by decide +kernel
theorem dX6_code_16 : decode cX6_code 16 = .ok (.lmul, 1) := by decide +kernel
theorem dX6_code_17 : decode cX6_code 17 = .ok (.aload_n 0, 1) := by decide +kernel
theorem dX6_code_18 : decode cX6_code 18 = .ok (.iload_n 3, 1) := by decide +kernel
theorem dX6_code_19 : decode cX6_code 19 = .ok (.invokevirtual 130, 3) := by decide +kernel
theorem dX6_code_22 : decode cX6_code 22 = .ok (.bipush 97, 2) := by decide +kernel
theorem dX6_code_24 : decode cX6_code 24 = .ok (.isub, 1) := by decide +kernel
theorem dX6_code_25 : decode cX6_code 25 = .ok (.iconst 1, 1) := by decide +kernel
theorem dX6_code_26 : decode cX6_code 26 = .ok (.iadd, 1) := by decide +kernel
theorem dX6_code_27 : decode cX6_code 27 = .ok (.i2l, 1) := by decide +kernel
theorem dX6_code_28 : decode cX6_code 28 = .ok (.ladd, 1) := by decide +kernel
theorem dX6_code_29 : decode cX6_code 29 = .ok (.lstore_n 1, 1) := by decide +kernel
theorem dX6_code_30 : decode cX6_code 30 = .ok (.iinc 3 1, 3) := by decide +kernel
theorem dX6_code_33 : decode cX6_code 33 = .ok (.goto (-29), 3) := by decide +kernel
theorem dX6_code_36 : decode cX6_code 36 = .ok (.lload_n 1, 1) := by decide +kernel
theorem dX6_code_37 : decode cX6_code 37 = .ok (.lreturn, 1) := by decide +kernel
theorem dX6_spells_0 : decode cX6_spells 0 = .ok (.aload_n 0, 1) := by decide +kernel
theorem dX6_spells_1 : decode cX6_spells 1 = .ok (.getfield 31, 3) := by decide +kernel
theorem dX6_spells_4 : decode cX6_spells 4 = .ok (.iconst 1, 1) := by decide +kernel
theorem dX6_spells_5 : decode cX6_spells 5 = .ok (.if_icmp .ne 19, 3) := by decide +kernel
theorem dX6_spells_8 : decode cX6_spells 8 = .ok (.aload_n 0, 1) := by decide +kernel
theorem dX6_spells_9 : decode cX6_spells 9 = .ok (.getfield 34, 3) := by decide +kernel
theorem dX6_spells_12 : decode cX6_spells 12 = .ok (.aload_n 1, 1) := by decide +kernel
theorem dX6_spells_13 : decode cX6_spells 13 = .ok (.invokestatic 60, 3) := by decide +kernel
theorem dX6_spells_16 : decode cX6_spells 16 = .ok (.lcmp, 1) := by decide +kernel
theorem dX6_spells_17 : decode cX6_spells 17 = .ok (.ifCond .ne 7, 3) := by decide +kernel
theorem dX6_spells_20 : decode cX6_spells 20 = .ok (.iconst 1, 1) := by decide +kernel
theorem dX6_spells_21 : decode cX6_spells 21 = .ok (.goto 4, 3) := by decide +kernel
theorem dX6_spells_24 : decode cX6_spells 24 = .ok (.iconst 0, 1) := by decide +kernel
theorem dX6_spells_25 : decode cX6_spells 25 = .ok (.ireturn, 1) := by decide +kernel
theorem dX6_lineSort_0 : decode cX6_lineSort 0 = .ok (.iconst 0, 1) := by decide +kernel
theorem dX6_lineSort_1 : decode cX6_lineSort 1 = .ok (.istore_n 1, 1) := by decide +kernel
theorem dX6_lineSort_2 : decode cX6_lineSort 2 = .ok (.iload_n 1, 1) := by decide +kernel
theorem dX6_lineSort_3 : decode cX6_lineSort 3 = .ok (.bipush 7, 2) := by decide +kernel
theorem dX6_lineSort_5 : decode cX6_lineSort 5 = .ok (.if_icmp .ge 33, 3) := by decide +kernel
theorem dX6_lineSort_8 : decode cX6_lineSort 8 = .ok (.aload_n 0, 1) := by decide +kernel
theorem dX6_lineSort_9 : decode cX6_lineSort 9 = .ok (.getfield 31, 3) := by decide +kernel
theorem dX6_lineSort_12 : decode cX6_lineSort 12 = .ok (.iconst 1, 1) := by decide +kernel
theorem dX6_lineSort_13 : decode cX6_lineSort 13 = .ok (.if_icmp .ne 19, 3) := by decide +kernel
theorem dX6_lineSort_16 : decode cX6_lineSort 16 = .ok (.aload_n 0, 1) := by decide +kernel
theorem dX6_lineSort_17 : decode cX6_lineSort 17 = .ok (.getfield 34, 3) := by decide +kernel
theorem dX6_lineSort_20 : decode cX6_lineSort 20 = .ok (.aload_n 0, 1) := by decide +kernel
theorem dX6_lineSort_21 : decode cX6_lineSort 21 = .ok (.getfield 41, 3) := by decide +kernel
theorem dX6_lineSort_24 : decode cX6_lineSort 24 = .ok (.iload_n 1, 1) := by decide +kernel
theorem dX6_lineSort_25 : decode cX6_lineSort 25 = .ok (.laload, 1) := by decide +kernel
theorem dX6_lineSort_26 : decode cX6_lineSort 26 = .ok (.lcmp, 1) := by decide +kernel
theorem dX6_lineSort_27 : decode cX6_lineSort 27 = .ok (.ifCond .ne 5, 3) := by decide +kernel
theorem dX6_lineSort_30 : decode cX6_lineSort 30 = .ok (.iload_n 1, 1) := by decide +kernel
theorem dX6_lineSort_31 : decode cX6_lineSort 31 = .ok (.ireturn, 1) := by decide +kernel
theorem dX6_lineSort_32 : decode cX6_lineSort 32 = .ok (.iinc 1 1, 3) := by decide +kernel
theorem dX6_lineSort_35 : decode cX6_lineSort 35 = .ok (.goto (-33), 3) := by decide +kernel
theorem dX6_lineSort_38 : decode cX6_lineSort 38 = .ok (.iconst (-1), 1) := by decide +kernel
theorem dX6_lineSort_39 : decode cX6_lineSort 39 = .ok (.ireturn, 1) := by decide +kernel
theorem dX6_readsLine_0 : decode cX6_readsLine 0 = .ok (.aload_n 0, 1) := by decide +kernel
theorem dX6_readsLine_1 : decode cX6_readsLine 1 = .ok (.invokevirtual 134, 3) := by decide +kernel
theorem dX6_readsLine_4 : decode cX6_readsLine 4 = .ok (.istore_n 2, 1) := by decide +kernel
theorem dX6_readsLine_5 : decode cX6_readsLine 5 = .ok (.iload_n 2, 1) := by decide +kernel
theorem dX6_readsLine_6 : decode cX6_readsLine 6 = .ok (.iconst (-1), 1) := by decide +kernel
theorem dX6_readsLine_7 : decode cX6_readsLine 7 = .ok (.if_icmp .ne 9, 3) := by decide +kernel
theorem dX6_readsLine_10 : decode cX6_readsLine 10 = .ok (.aload_n 0, 1) := by decide +kernel
theorem dX6_readsLine_11 : decode cX6_readsLine 11 = .ok (.iconst 1, 1) := by decide +kernel
theorem dX6_readsLine_12 : decode cX6_readsLine 12 = .ok (.invokevirtual 97, 3) := by decide +kernel
theorem dX6_readsLine_15 : decode cX6_readsLine 15 = .ok (.ireturn, 1) := by decide +kernel
theorem dX6_readsLine_16 : decode cX6_readsLine 16 = .ok (.iload_n 2, 1) := by decide +kernel
theorem dX6_readsLine_17 : decode cX6_readsLine 17 = .ok (.ifCond .ne 24, 3) := by decide +kernel
theorem dX6_readsLine_20 : decode cX6_readsLine 20 = .ok (.aload_n 1, 1) := by decide +kernel
theorem dX6_readsLine_21 : decode cX6_readsLine 21 = .ok (.getfield 137, 3) := by decide +kernel
theorem dX6_readsLine_24 : decode cX6_readsLine 24 = .ok (.ifCond .eq 11, 3) := by decide +kernel
theorem dX6_readsLine_27 : decode cX6_readsLine 27 = .ok (.aload_n 0, 1) := by decide +kernel
theorem dX6_readsLine_28 : decode cX6_readsLine 28 = .ok (.iconst 3, 1) := by decide +kernel
theorem dX6_readsLine_29 : decode cX6_readsLine 29 = .ok (.invokevirtual 97, 3) := by decide +kernel
theorem dX6_readsLine_32 : decode cX6_readsLine 32 = .ok (.goto 8, 3) := by decide +kernel
theorem dX6_readsLine_35 : decode cX6_readsLine 35 = .ok (.aload_n 0, 1) := by decide +kernel
theorem dX6_readsLine_36 : decode cX6_readsLine 36 = .ok (.aload_n 1, 1) := by decide +kernel
theorem dX6_readsLine_37 : decode cX6_readsLine 37 = .ok (.invokevirtual 141, 3) := by decide +kernel
theorem dX6_readsLine_40 : decode cX6_readsLine 40 = .ok (.ireturn, 1) := by decide +kernel
theorem dX6_readsLine_41 : decode cX6_readsLine 41 = .ok (.aload_n 1, 1) := by decide +kernel
theorem dX6_readsLine_42 : decode cX6_readsLine 42 = .ok (.getfield 137, 3) := by decide +kernel
theorem dX6_readsLine_45 : decode cX6_readsLine 45 = .ok (.ifCond .ne 10, 3) := by decide +kernel
theorem dX6_readsLine_48 : decode cX6_readsLine 48 = .ok (.aload_n 0, 1) := by decide +kernel
theorem dX6_readsLine_49 : decode cX6_readsLine 49 = .ok (.bipush 6, 2) := by decide +kernel
theorem dX6_readsLine_51 : decode cX6_readsLine 51 = .ok (.invokevirtual 97, 3) := by decide +kernel
theorem dX6_readsLine_54 : decode cX6_readsLine 54 = .ok (.ireturn, 1) := by decide +kernel
theorem dX6_readsLine_55 : decode cX6_readsLine 55 = .ok (.iload_n 2, 1) := by decide +kernel
theorem dX6_readsLine_56 : decode cX6_readsLine 56 = .ok (.tableswitch 153 1 5 #[36, 59, 85, 108, 130], 36) := by decide +kernel
theorem dX6_readsLine_92 : decode cX6_readsLine 92 = .ok (.aload_n 1, 1) := by decide +kernel
theorem dX6_readsLine_93 : decode cX6_readsLine 93 = .ok (.getfield 101, 3) := by decide +kernel
theorem dX6_readsLine_96 : decode cX6_readsLine 96 = .ok (.bipush 6, 2) := by decide +kernel
theorem dX6_readsLine_98 : decode cX6_readsLine 98 = .ok (.if_icmp .ge 11, 3) := by decide +kernel
theorem dX6_readsLine_101 : decode cX6_readsLine 101 = .ok (.aload_n 0, 1) := by decide +kernel
theorem dX6_readsLine_102 : decode cX6_readsLine 102 = .ok (.aload_n 1, 1) := by decide +kernel
theorem dX6_readsLine_103 : decode cX6_readsLine 103 = .ok (.invokevirtual 144, 3) := by decide +kernel
theorem dX6_readsLine_106 : decode cX6_readsLine 106 = .ok (.goto 8, 3) := by decide +kernel
theorem dX6_readsLine_109 : decode cX6_readsLine 109 = .ok (.aload_n 0, 1) := by decide +kernel
theorem dX6_readsLine_110 : decode cX6_readsLine 110 = .ok (.iconst 5, 1) := by decide +kernel
theorem dX6_readsLine_111 : decode cX6_readsLine 111 = .ok (.invokevirtual 97, 3) := by decide +kernel
theorem dX6_readsLine_114 : decode cX6_readsLine 114 = .ok (.ireturn, 1) := by decide +kernel
theorem dX6_readsLine_115 : decode cX6_readsLine 115 = .ok (.aload_n 1, 1) := by decide +kernel
theorem dX6_readsLine_116 : decode cX6_readsLine 116 = .ok (.getfield 147, 3) := by decide +kernel
theorem dX6_readsLine_119 : decode cX6_readsLine 119 = .ok (.getfield 151, 3) := by decide +kernel
theorem dX6_readsLine_122 : decode cX6_readsLine 122 = .ok (.bipush 9, 2) := by decide +kernel
theorem dX6_readsLine_124 : decode cX6_readsLine 124 = .ok (.if_icmp .ge 11, 3) := by decide +kernel
theorem dX6_readsLine_127 : decode cX6_readsLine 127 = .ok (.aload_n 0, 1) := by decide +kernel
theorem dX6_readsLine_128 : decode cX6_readsLine 128 = .ok (.aload_n 1, 1) := by decide +kernel
theorem dX6_readsLine_129 : decode cX6_readsLine 129 = .ok (.invokevirtual 156, 3) := by decide +kernel
theorem dX6_readsLine_132 : decode cX6_readsLine 132 = .ok (.goto 8, 3) := by decide +kernel
theorem dX6_readsLine_135 : decode cX6_readsLine 135 = .ok (.aload_n 0, 1) := by decide +kernel
theorem dX6_readsLine_136 : decode cX6_readsLine 136 = .ok (.iconst 5, 1) := by decide +kernel
theorem dX6_readsLine_137 : decode cX6_readsLine 137 = .ok (.invokevirtual 97, 3) := by decide +kernel
theorem dX6_readsLine_140 : decode cX6_readsLine 140 = .ok (.ireturn, 1) := by decide +kernel
theorem dX6_readsLine_141 : decode cX6_readsLine 141 = .ok (.aload_n 1, 1) := by decide +kernel
theorem dX6_readsLine_142 : decode cX6_readsLine 142 = .ok (.getfield 104, 3) := by decide +kernel
theorem dX6_readsLine_145 : decode cX6_readsLine 145 = .ok (.bipush 6, 2) := by decide +kernel
theorem dX6_readsLine_147 : decode cX6_readsLine 147 = .ok (.if_icmp .ge 11, 3) := by decide +kernel
theorem dX6_readsLine_150 : decode cX6_readsLine 150 = .ok (.aload_n 0, 1) := by decide +kernel
theorem dX6_readsLine_151 : decode cX6_readsLine 151 = .ok (.aload_n 1, 1) := by decide +kernel
theorem dX6_readsLine_152 : decode cX6_readsLine 152 = .ok (.invokevirtual 159, 3) := by decide +kernel
theorem dX6_readsLine_155 : decode cX6_readsLine 155 = .ok (.goto 8, 3) := by decide +kernel
theorem dX6_readsLine_158 : decode cX6_readsLine 158 = .ok (.aload_n 0, 1) := by decide +kernel
theorem dX6_readsLine_159 : decode cX6_readsLine 159 = .ok (.iconst 5, 1) := by decide +kernel
theorem dX6_readsLine_160 : decode cX6_readsLine 160 = .ok (.invokevirtual 97, 3) := by decide +kernel
theorem dX6_readsLine_163 : decode cX6_readsLine 163 = .ok (.ireturn, 1) := by decide +kernel
theorem dX6_readsLine_164 : decode cX6_readsLine 164 = .ok (.aload_n 1, 1) := by decide +kernel
theorem dX6_readsLine_165 : decode cX6_readsLine 165 = .ok (.getfield 162, 3) := by decide +kernel
theorem dX6_readsLine_168 : decode cX6_readsLine 168 = .ok (.iconst 5, 1) := by decide +kernel
theorem dX6_readsLine_169 : decode cX6_readsLine 169 = .ok (.if_icmp .ge 11, 3) := by decide +kernel
theorem dX6_readsLine_172 : decode cX6_readsLine 172 = .ok (.aload_n 0, 1) := by decide +kernel
theorem dX6_readsLine_173 : decode cX6_readsLine 173 = .ok (.aload_n 1, 1) := by decide +kernel
theorem dX6_readsLine_174 : decode cX6_readsLine 174 = .ok (.invokevirtual 165, 3) := by decide +kernel
theorem dX6_readsLine_177 : decode cX6_readsLine 177 = .ok (.goto 8, 3) := by decide +kernel
theorem dX6_readsLine_180 : decode cX6_readsLine 180 = .ok (.aload_n 0, 1) := by decide +kernel
theorem dX6_readsLine_181 : decode cX6_readsLine 181 = .ok (.iconst 5, 1) := by decide +kernel
theorem dX6_readsLine_182 : decode cX6_readsLine 182 = .ok (.invokevirtual 97, 3) := by decide +kernel
theorem dX6_readsLine_185 : decode cX6_readsLine 185 = .ok (.ireturn, 1) := by decide +kernel
theorem dX6_readsLine_186 : decode cX6_readsLine 186 = .ok (.aload_n 1, 1) := by decide +kernel
theorem dX6_readsLine_187 : decode cX6_readsLine 187 = .ok (.getfield 168, 3) := by decide +kernel
theorem dX6_readsLine_190 : decode cX6_readsLine 190 = .ok (.bipush 8, 2) := by decide +kernel
theorem dX6_readsLine_192 : decode cX6_readsLine 192 = .ok (.if_icmp .ge 11, 3) := by decide +kernel
theorem dX6_readsLine_195 : decode cX6_readsLine 195 = .ok (.aload_n 0, 1) := by decide +kernel
theorem dX6_readsLine_196 : decode cX6_readsLine 196 = .ok (.aload_n 1, 1) := by decide +kernel
theorem dX6_readsLine_197 : decode cX6_readsLine 197 = .ok (.invokevirtual 171, 3) := by decide +kernel
theorem dX6_readsLine_200 : decode cX6_readsLine 200 = .ok (.goto 8, 3) := by decide +kernel
theorem dX6_readsLine_203 : decode cX6_readsLine 203 = .ok (.aload_n 0, 1) := by decide +kernel
theorem dX6_readsLine_204 : decode cX6_readsLine 204 = .ok (.iconst 5, 1) := by decide +kernel
theorem dX6_readsLine_205 : decode cX6_readsLine 205 = .ok (.invokevirtual 97, 3) := by decide +kernel
theorem dX6_readsLine_208 : decode cX6_readsLine 208 = .ok (.ireturn, 1) := by decide +kernel
theorem dX6_readsLine_209 : decode cX6_readsLine 209 = .ok (.aload_n 1, 1) := by decide +kernel
theorem dX6_readsLine_210 : decode cX6_readsLine 210 = .ok (.getfield 174, 3) := by decide +kernel
theorem dX6_readsLine_213 : decode cX6_readsLine 213 = .ok (.iconst 5, 1) := by decide +kernel
theorem dX6_readsLine_214 : decode cX6_readsLine 214 = .ok (.if_icmp .ge 11, 3) := by decide +kernel
theorem dX6_readsLine_217 : decode cX6_readsLine 217 = .ok (.aload_n 0, 1) := by decide +kernel
theorem dX6_readsLine_218 : decode cX6_readsLine 218 = .ok (.aload_n 1, 1) := by decide +kernel
theorem dX6_readsLine_219 : decode cX6_readsLine 219 = .ok (.invokevirtual 177, 3) := by decide +kernel
theorem dX6_readsLine_222 : decode cX6_readsLine 222 = .ok (.goto 8, 3) := by decide +kernel
theorem dX6_readsLine_225 : decode cX6_readsLine 225 = .ok (.aload_n 0, 1) := by decide +kernel
theorem dX6_readsLine_226 : decode cX6_readsLine 226 = .ok (.iconst 5, 1) := by decide +kernel
theorem dX6_readsLine_227 : decode cX6_readsLine 227 = .ok (.invokevirtual 97, 3) := by decide +kernel
theorem dX6_readsLine_230 : decode cX6_readsLine 230 = .ok (.ireturn, 1) := by decide +kernel
theorem dX6_readsTown_0 : decode cX6_readsTown 0 = .ok (.aload_n 0, 1) := by decide +kernel
theorem dX6_readsTown_1 : decode cX6_readsTown 1 = .ok (.invokevirtual 87, 3) := by decide +kernel
theorem dX6_readsTown_4 : decode cX6_readsTown 4 = .ok (.aload_n 0, 1) := by decide +kernel
theorem dX6_readsTown_5 : decode cX6_readsTown 5 = .ok (.ldc 180, 2) := by decide +kernel
theorem dX6_readsTown_7 : decode cX6_readsTown 7 = .ok (.invokevirtual 182, 3) := by decide +kernel
theorem dX6_readsTown_10 : decode cX6_readsTown 10 = .ok (.ifCond .eq 13, 3) := by decide +kernel
theorem dX6_readsTown_13 : decode cX6_readsTown 13 = .ok (.aload_n 0, 1) := by decide +kernel
theorem dX6_readsTown_14 : decode cX6_readsTown 14 = .ok (.iconst 4, 1) := by decide +kernel
theorem dX6_readsTown_15 : decode cX6_readsTown 15 = .ok (.bipush 11, 2) := by decide +kernel
theorem dX6_readsTown_17 : decode cX6_readsTown 17 = .ok (.invokevirtual 186, 3) := by decide +kernel
theorem dX6_readsTown_20 : decode cX6_readsTown 20 = .ok (.ifCond .ne 5, 3) := by decide +kernel
theorem dX6_readsTown_23 : decode cX6_readsTown 23 = .ok (.iconst 0, 1) := by decide +kernel
theorem dX6_readsTown_24 : decode cX6_readsTown 24 = .ok (.ireturn, 1) := by decide +kernel
theorem dX6_readsTown_25 : decode cX6_readsTown 25 = .ok (.aload_n 1, 1) := by decide +kernel
theorem dX6_readsTown_26 : decode cX6_readsTown 26 = .ok (.aload_n 0, 1) := by decide +kernel
theorem dX6_readsTown_27 : decode cX6_readsTown 27 = .ok (.getfield 38, 3) := by decide +kernel
theorem dX6_readsTown_30 : decode cX6_readsTown 30 = .ok (.putfield 190, 3) := by decide +kernel
theorem dX6_readsTown_33 : decode cX6_readsTown 33 = .ok (.aload_n 0, 1) := by decide +kernel
theorem dX6_readsTown_34 : decode cX6_readsTown 34 = .ok (.ldc 192, 2) := by decide +kernel
theorem dX6_readsTown_36 : decode cX6_readsTown 36 = .ok (.invokevirtual 182, 3) := by decide +kernel
theorem dX6_readsTown_39 : decode cX6_readsTown 39 = .ok (.ifCond .eq 14, 3) := by decide +kernel
theorem dX6_readsTown_42 : decode cX6_readsTown 42 = .ok (.aload_n 0, 1) := by decide +kernel
theorem dX6_readsTown_43 : decode cX6_readsTown 43 = .ok (.bipush 12, 2) := by decide +kernel
theorem dX6_readsTown_45 : decode cX6_readsTown 45 = .ok (.bipush 22, 2) := by decide +kernel
theorem dX6_readsTown_47 : decode cX6_readsTown 47 = .ok (.invokevirtual 186, 3) := by decide +kernel
theorem dX6_readsTown_50 : decode cX6_readsTown 50 = .ok (.ifCond .ne 5, 3) := by decide +kernel
theorem dX6_readsTown_53 : decode cX6_readsTown 53 = .ok (.iconst 0, 1) := by decide +kernel
theorem dX6_readsTown_54 : decode cX6_readsTown 54 = .ok (.ireturn, 1) := by decide +kernel
theorem dX6_readsTown_55 : decode cX6_readsTown 55 = .ok (.aload_n 1, 1) := by decide +kernel
theorem dX6_readsTown_56 : decode cX6_readsTown 56 = .ok (.aload_n 0, 1) := by decide +kernel
theorem dX6_readsTown_57 : decode cX6_readsTown 57 = .ok (.getfield 38, 3) := by decide +kernel
theorem dX6_readsTown_60 : decode cX6_readsTown 60 = .ok (.putfield 194, 3) := by decide +kernel
theorem dX6_readsTown_63 : decode cX6_readsTown 63 = .ok (.aload_n 0, 1) := by decide +kernel
theorem dX6_readsTown_64 : decode cX6_readsTown 64 = .ok (.ldc 196, 2) := by decide +kernel
theorem dX6_readsTown_66 : decode cX6_readsTown 66 = .ok (.invokevirtual 182, 3) := by decide +kernel
theorem dX6_readsTown_69 : decode cX6_readsTown 69 = .ok (.ifCond .eq 14, 3) := by decide +kernel
theorem dX6_readsTown_72 : decode cX6_readsTown 72 = .ok (.aload_n 0, 1) := by decide +kernel
theorem dX6_readsTown_73 : decode cX6_readsTown 73 = .ok (.bipush 60, 2) := by decide +kernel
theorem dX6_readsTown_75 : decode cX6_readsTown 75 = .ok (.bipush 120, 2) := by decide +kernel
theorem dX6_readsTown_77 : decode cX6_readsTown 77 = .ok (.invokevirtual 186, 3) := by decide +kernel
theorem dX6_readsTown_80 : decode cX6_readsTown 80 = .ok (.ifCond .ne 5, 3) := by decide +kernel
theorem dX6_readsTown_83 : decode cX6_readsTown 83 = .ok (.iconst 0, 1) := by decide +kernel
theorem dX6_readsTown_84 : decode cX6_readsTown 84 = .ok (.ireturn, 1) := by decide +kernel
theorem dX6_readsTown_85 : decode cX6_readsTown 85 = .ok (.aload_n 1, 1) := by decide +kernel
theorem dX6_readsTown_86 : decode cX6_readsTown 86 = .ok (.aload_n 0, 1) := by decide +kernel
theorem dX6_readsTown_87 : decode cX6_readsTown 87 = .ok (.getfield 38, 3) := by decide +kernel
theorem dX6_readsTown_90 : decode cX6_readsTown 90 = .ok (.putfield 198, 3) := by decide +kernel
theorem dX6_readsTown_93 : decode cX6_readsTown 93 = .ok (.aload_n 1, 1) := by decide +kernel
theorem dX6_readsTown_94 : decode cX6_readsTown 94 = .ok (.iconst 1, 1) := by decide +kernel
theorem dX6_readsTown_95 : decode cX6_readsTown 95 = .ok (.putfield 137, 3) := by decide +kernel
theorem dX6_readsTown_98 : decode cX6_readsTown 98 = .ok (.iconst 1, 1) := by decide +kernel
theorem dX6_readsTown_99 : decode cX6_readsTown 99 = .ok (.ireturn, 1) := by decide +kernel
theorem dX6_readsHouse_0 : decode cX6_readsHouse 0 = .ok (.aload_n 0, 1) := by decide +kernel
theorem dX6_readsHouse_1 : decode cX6_readsHouse 1 = .ok (.invokevirtual 87, 3) := by decide +kernel
theorem dX6_readsHouse_4 : decode cX6_readsHouse 4 = .ok (.aload_n 0, 1) := by decide +kernel
theorem dX6_readsHouse_5 : decode cX6_readsHouse 5 = .ok (.iconst 1, 1) := by decide +kernel
theorem dX6_readsHouse_6 : decode cX6_readsHouse 6 = .ok (.aload_n 1, 1) := by decide +kernel
theorem dX6_readsHouse_7 : decode cX6_readsHouse 7 = .ok (.getfield 101, 3) := by decide +kernel
theorem dX6_readsHouse_10 : decode cX6_readsHouse 10 = .ok (.invokevirtual 200, 3) := by decide +kernel
theorem dX6_readsHouse_13 : decode cX6_readsHouse 13 = .ok (.ifCond .eq 23, 3) := by decide +kernel
theorem dX6_readsHouse_16 : decode cX6_readsHouse 16 = .ok (.aload_n 0, 1) := by decide +kernel
theorem dX6_readsHouse_17 : decode cX6_readsHouse 17 = .ok (.ldc 203, 2) := by decide +kernel
theorem dX6_readsHouse_19 : decode cX6_readsHouse 19 = .ok (.invokevirtual 182, 3) := by decide +kernel
theorem dX6_readsHouse_22 : decode cX6_readsHouse 22 = .ok (.ifCond .eq 14, 3) := by decide +kernel
theorem dX6_readsHouse_25 : decode cX6_readsHouse 25 = .ok (.aload_n 0, 1) := by decide +kernel
theorem dX6_readsHouse_26 : decode cX6_readsHouse 26 = .ok (.bipush 10, 2) := by decide +kernel
theorem dX6_readsHouse_28 : decode cX6_readsHouse 28 = .ok (.bipush 59, 2) := by decide +kernel
theorem dX6_readsHouse_30 : decode cX6_readsHouse 30 = .ok (.invokevirtual 186, 3) := by decide +kernel
theorem dX6_readsHouse_33 : decode cX6_readsHouse 33 = .ok (.ifCond .ne 5, 3) := by decide +kernel
theorem dX6_readsHouse_36 : decode cX6_readsHouse 36 = .ok (.iconst 0, 1) := by decide +kernel
theorem dX6_readsHouse_37 : decode cX6_readsHouse 37 = .ok (.ireturn, 1) := by decide +kernel
theorem dX6_readsHouse_38 : decode cX6_readsHouse 38 = .ok (.aload_n 1, 1) := by decide +kernel
theorem dX6_readsHouse_39 : decode cX6_readsHouse 39 = .ok (.getfield 205, 3) := by decide +kernel
theorem dX6_readsHouse_42 : decode cX6_readsHouse 42 = .ok (.aload_n 1, 1) := by decide +kernel
theorem dX6_readsHouse_43 : decode cX6_readsHouse 43 = .ok (.getfield 101, 3) := by decide +kernel
theorem dX6_readsHouse_46 : decode cX6_readsHouse 46 = .ok (.aload_n 0, 1) := by decide +kernel
theorem dX6_readsHouse_47 : decode cX6_readsHouse 47 = .ok (.getfield 38, 3) := by decide +kernel
theorem dX6_readsHouse_50 : decode cX6_readsHouse 50 = .ok (.iastore, 1) := by decide +kernel
theorem dX6_readsHouse_51 : decode cX6_readsHouse 51 = .ok (.aload_n 1, 1) := by decide +kernel
theorem dX6_readsHouse_52 : decode cX6_readsHouse 52 = .ok (.dup, 1) := by decide +kernel
theorem dX6_readsHouse_53 : decode cX6_readsHouse 53 = .ok (.getfield 101, 3) := by decide +kernel
theorem dX6_readsHouse_56 : decode cX6_readsHouse 56 = .ok (.iconst 1, 1) := by decide +kernel
theorem dX6_readsHouse_57 : decode cX6_readsHouse 57 = .ok (.iadd, 1) := by decide +kernel
theorem dX6_readsHouse_58 : decode cX6_readsHouse 58 = .ok (.putfield 101, 3) := by decide +kernel
theorem dX6_readsHouse_61 : decode cX6_readsHouse 61 = .ok (.iconst 1, 1) := by decide +kernel
theorem dX6_readsHouse_62 : decode cX6_readsHouse 62 = .ok (.ireturn, 1) := by decide +kernel
theorem dX6_readsLane_0 : decode cX6_readsLane 0 = .ok (.aload_n 0, 1) := by decide +kernel
theorem dX6_readsLane_1 : decode cX6_readsLane 1 = .ok (.invokevirtual 87, 3) := by decide +kernel
theorem dX6_readsLane_4 : decode cX6_readsLane 4 = .ok (.aload_n 0, 1) := by decide +kernel
theorem dX6_readsLane_5 : decode cX6_readsLane 5 = .ok (.iconst 1, 1) := by decide +kernel
theorem dX6_readsLane_6 : decode cX6_readsLane 6 = .ok (.invokevirtual 208, 3) := by decide +kernel
theorem dX6_readsLane_9 : decode cX6_readsLane 9 = .ok (.ifCond .ne 5, 3) := by decide +kernel
theorem dX6_readsLane_12 : decode cX6_readsLane 12 = .ok (.iconst 0, 1) := by decide +kernel
theorem dX6_readsLane_13 : decode cX6_readsLane 13 = .ok (.ireturn, 1) := by decide +kernel
theorem dX6_readsLane_14 : decode cX6_readsLane 14 = .ok (.aload_n 0, 1) := by decide +kernel
theorem dX6_readsLane_15 : decode cX6_readsLane 15 = .ok (.getfield 38, 3) := by decide +kernel
theorem dX6_readsLane_18 : decode cX6_readsLane 18 = .ok (.istore_n 2, 1) := by decide +kernel
theorem dX6_readsLane_19 : decode cX6_readsLane 19 = .ok (.aload_n 0, 1) := by decide +kernel
theorem dX6_readsLane_20 : decode cX6_readsLane 20 = .ok (.iconst 1, 1) := by decide +kernel
theorem dX6_readsLane_21 : decode cX6_readsLane 21 = .ok (.invokevirtual 211, 3) := by decide +kernel
theorem dX6_readsLane_24 : decode cX6_readsLane 24 = .ok (.ifCond .ne 5, 3) := by decide +kernel
theorem dX6_readsLane_27 : decode cX6_readsLane 27 = .ok (.iconst 0, 1) := by decide +kernel
theorem dX6_readsLane_28 : decode cX6_readsLane 28 = .ok (.ireturn, 1) := by decide +kernel
theorem dX6_readsLane_29 : decode cX6_readsLane 29 = .ok (.aload_n 0, 1) := by decide +kernel
theorem dX6_readsLane_30 : decode cX6_readsLane 30 = .ok (.getfield 38, 3) := by decide +kernel
theorem dX6_readsLane_33 : decode cX6_readsLane 33 = .ok (.istore_n 3, 1) := by decide +kernel
theorem dX6_readsLane_34 : decode cX6_readsLane 34 = .ok (.iload_n 3, 1) := by decide +kernel
theorem dX6_readsLane_35 : decode cX6_readsLane 35 = .ok (.iload_n 2, 1) := by decide +kernel
theorem dX6_readsLane_36 : decode cX6_readsLane 36 = .ok (.if_icmp .eq 15, 3) := by decide +kernel
theorem dX6_readsLane_39 : decode cX6_readsLane 39 = .ok (.aload_n 1, 1) := by decide +kernel
theorem dX6_readsLane_40 : decode cX6_readsLane 40 = .ok (.getfield 147, 3) := by decide +kernel
theorem dX6_readsLane_43 : decode cX6_readsLane 43 = .ok (.iload_n 2, 1) := by decide +kernel
theorem dX6_readsLane_44 : decode cX6_readsLane 44 = .ok (.iload_n 3, 1) := by decide +kernel
theorem dX6_readsLane_45 : decode cX6_readsLane 45 = .ok (.invokevirtual 214, 3) := by decide +kernel
theorem dX6_readsLane_48 : decode cX6_readsLane 48 = .ok (.ifCond .eq 9, 3) := by decide +kernel
theorem dX6_readsLane_51 : decode cX6_readsLane 51 = .ok (.aload_n 0, 1) := by decide +kernel
theorem dX6_readsLane_52 : decode cX6_readsLane 52 = .ok (.iconst 3, 1) := by decide +kernel
theorem dX6_readsLane_53 : decode cX6_readsLane 53 = .ok (.invokevirtual 97, 3) := by decide +kernel
theorem dX6_readsLane_56 : decode cX6_readsLane 56 = .ok (.ireturn, 1) := by decide +kernel
theorem dX6_readsLane_57 : decode cX6_readsLane 57 = .ok (.aload_n 0, 1) := by decide +kernel
theorem dX6_readsLane_58 : decode cX6_readsLane 58 = .ok (.invokevirtual 87, 3) := by decide +kernel
theorem dX6_readsLane_61 : decode cX6_readsLane 61 = .ok (.aload_n 0, 1) := by decide +kernel
theorem dX6_readsLane_62 : decode cX6_readsLane 62 = .ok (.ldc 217, 2) := by decide +kernel
theorem dX6_readsLane_64 : decode cX6_readsLane 64 = .ok (.invokevirtual 182, 3) := by decide +kernel
theorem dX6_readsLane_67 : decode cX6_readsLane 67 = .ok (.ifCond .eq 13, 3) := by decide +kernel
theorem dX6_readsLane_70 : decode cX6_readsLane 70 = .ok (.aload_n 0, 1) := by decide +kernel
theorem dX6_readsLane_71 : decode cX6_readsLane 71 = .ok (.iconst 1, 1) := by decide +kernel
theorem dX6_readsLane_72 : decode cX6_readsLane 72 = .ok (.bipush 60, 2) := by decide +kernel
theorem dX6_readsLane_74 : decode cX6_readsLane 74 = .ok (.invokevirtual 186, 3) := by decide +kernel
theorem dX6_readsLane_77 : decode cX6_readsLane 77 = .ok (.ifCond .ne 5, 3) := by decide +kernel
theorem dX6_readsLane_80 : decode cX6_readsLane 80 = .ok (.iconst 0, 1) := by decide +kernel
theorem dX6_readsLane_81 : decode cX6_readsLane 81 = .ok (.ireturn, 1) := by decide +kernel
theorem dX6_readsLane_82 : decode cX6_readsLane 82 = .ok (.aload_n 1, 1) := by decide +kernel
theorem dX6_readsLane_83 : decode cX6_readsLane 83 = .ok (.getfield 147, 3) := by decide +kernel
theorem dX6_readsLane_86 : decode cX6_readsLane 86 = .ok (.iload_n 2, 1) := by decide +kernel
theorem dX6_readsLane_87 : decode cX6_readsLane 87 = .ok (.iload_n 3, 1) := by decide +kernel
theorem dX6_readsLane_88 : decode cX6_readsLane 88 = .ok (.aload_n 0, 1) := by decide +kernel
theorem dX6_readsLane_89 : decode cX6_readsLane 89 = .ok (.getfield 38, 3) := by decide +kernel
theorem dX6_readsLane_92 : decode cX6_readsLane 92 = .ok (.invokevirtual 219, 3) := by decide +kernel
theorem dX6_readsLane_95 : decode cX6_readsLane 95 = .ok (.iconst 1, 1) := by decide +kernel
theorem dX6_readsLane_96 : decode cX6_readsLane 96 = .ok (.ireturn, 1) := by decide +kernel
theorem dX6_readsPerson_0 : decode cX6_readsPerson 0 = .ok (.aload_n 1, 1) := by decide +kernel
theorem dX6_readsPerson_1 : decode cX6_readsPerson 1 = .ok (.getfield 223, 3) := by decide +kernel
theorem dX6_readsPerson_4 : decode cX6_readsPerson 4 = .ok (.aload_n 1, 1) := by decide +kernel
theorem dX6_readsPerson_5 : decode cX6_readsPerson 5 = .ok (.getfield 104, 3) := by decide +kernel
theorem dX6_readsPerson_8 : decode cX6_readsPerson 8 = .ok (.aaload, 1) := by decide +kernel
theorem dX6_readsPerson_9 : decode cX6_readsPerson 9 = .ok (.astore_n 2, 1) := by decide +kernel
theorem dX6_readsPerson_10 : decode cX6_readsPerson 10 = .ok (.aload_n 0, 1) := by decide +kernel
theorem dX6_readsPerson_11 : decode cX6_readsPerson 11 = .ok (.invokevirtual 87, 3) := by decide +kernel
theorem dX6_readsPerson_14 : decode cX6_readsPerson 14 = .ok (.aload_n 0, 1) := by decide +kernel
theorem dX6_readsPerson_15 : decode cX6_readsPerson 15 = .ok (.iconst 3, 1) := by decide +kernel
theorem dX6_readsPerson_16 : decode cX6_readsPerson 16 = .ok (.aload_n 1, 1) := by decide +kernel
theorem dX6_readsPerson_17 : decode cX6_readsPerson 17 = .ok (.getfield 104, 3) := by decide +kernel
theorem dX6_readsPerson_20 : decode cX6_readsPerson 20 = .ok (.invokevirtual 200, 3) := by decide +kernel
theorem dX6_readsPerson_23 : decode cX6_readsPerson 23 = .ok (.ifCond .eq 10, 3) := by decide +kernel
theorem dX6_readsPerson_26 : decode cX6_readsPerson 26 = .ok (.aload_n 0, 1) := by decide +kernel
theorem dX6_readsPerson_27 : decode cX6_readsPerson 27 = .ok (.invokevirtual 227, 3) := by decide +kernel
theorem dX6_readsPerson_30 : decode cX6_readsPerson 30 = .ok (.ifCond .ne 5, 3) := by decide +kernel
theorem dX6_readsPerson_33 : decode cX6_readsPerson 33 = .ok (.iconst 0, 1) := by decide +kernel
theorem dX6_readsPerson_34 : decode cX6_readsPerson 34 = .ok (.ireturn, 1) := by decide +kernel
theorem dX6_readsPerson_35 : decode cX6_readsPerson 35 = .ok (.aload_n 2, 1) := by decide +kernel
theorem dX6_readsPerson_36 : decode cX6_readsPerson 36 = .ok (.aload_n 0, 1) := by decide +kernel
theorem dX6_readsPerson_37 : decode cX6_readsPerson 37 = .ok (.getfield 38, 3) := by decide +kernel
theorem dX6_readsPerson_40 : decode cX6_readsPerson 40 = .ok (.putfield 231, 3) := by decide +kernel
theorem dX6_readsPerson_43 : decode cX6_readsPerson 43 = .ok (.aload_n 0, 1) := by decide +kernel
theorem dX6_readsPerson_44 : decode cX6_readsPerson 44 = .ok (.ldc 236, 2) := by decide +kernel
theorem dX6_readsPerson_46 : decode cX6_readsPerson 46 = .ok (.invokevirtual 182, 3) := by decide +kernel
theorem dX6_readsPerson_49 : decode cX6_readsPerson 49 = .ok (.ifCond .eq 11, 3) := by decide +kernel
theorem dX6_readsPerson_52 : decode cX6_readsPerson 52 = .ok (.aload_n 0, 1) := by decide +kernel
theorem dX6_readsPerson_53 : decode cX6_readsPerson 53 = .ok (.iconst 1, 1) := by decide +kernel
theorem dX6_readsPerson_54 : decode cX6_readsPerson 54 = .ok (.invokevirtual 208, 3) := by decide +kernel
theorem dX6_readsPerson_57 : decode cX6_readsPerson 57 = .ok (.ifCond .ne 5, 3) := by decide +kernel
theorem dX6_readsPerson_60 : decode cX6_readsPerson 60 = .ok (.iconst 0, 1) := by decide +kernel
theorem dX6_readsPerson_61 : decode cX6_readsPerson 61 = .ok (.ireturn, 1) := by decide +kernel
theorem dX6_readsPerson_62 : decode cX6_readsPerson 62 = .ok (.aload_n 2, 1) := by decide +kernel
theorem dX6_readsPerson_63 : decode cX6_readsPerson 63 = .ok (.aload_n 0, 1) := by decide +kernel
theorem dX6_readsPerson_64 : decode cX6_readsPerson 64 = .ok (.getfield 38, 3) := by decide +kernel
theorem dX6_readsPerson_67 : decode cX6_readsPerson 67 = .ok (.putfield 238, 3) := by decide +kernel
theorem dX6_readsPerson_70 : decode cX6_readsPerson 70 = .ok (.aload_n 0, 1) := by decide +kernel
theorem dX6_readsPerson_71 : decode cX6_readsPerson 71 = .ok (.ldc 241, 2) := by decide +kernel
theorem dX6_readsPerson_73 : decode cX6_readsPerson 73 = .ok (.invokevirtual 182, 3) := by decide +kernel
theorem dX6_readsPerson_76 : decode cX6_readsPerson 76 = .ok (.ifCond .eq 14, 3) := by decide +kernel
theorem dX6_readsPerson_79 : decode cX6_readsPerson 79 = .ok (.aload_n 0, 1) := by decide +kernel
theorem dX6_readsPerson_80 : decode cX6_readsPerson 80 = .ok (.bipush 20, 2) := by decide +kernel
theorem dX6_readsPerson_82 : decode cX6_readsPerson 82 = .ok (.bipush 99, 2) := by decide +kernel
theorem dX6_readsPerson_84 : decode cX6_readsPerson 84 = .ok (.invokevirtual 186, 3) := by decide +kernel
theorem dX6_readsPerson_87 : decode cX6_readsPerson 87 = .ok (.ifCond .ne 5, 3) := by decide +kernel
theorem dX6_readsPerson_90 : decode cX6_readsPerson 90 = .ok (.iconst 0, 1) := by decide +kernel
theorem dX6_readsPerson_91 : decode cX6_readsPerson 91 = .ok (.ireturn, 1) := by decide +kernel
theorem dX6_readsPerson_92 : decode cX6_readsPerson 92 = .ok (.aload_n 2, 1) := by decide +kernel
theorem dX6_readsPerson_93 : decode cX6_readsPerson 93 = .ok (.aload_n 0, 1) := by decide +kernel
theorem dX6_readsPerson_94 : decode cX6_readsPerson 94 = .ok (.getfield 38, 3) := by decide +kernel
theorem dX6_readsPerson_97 : decode cX6_readsPerson 97 = .ok (.putfield 243, 3) := by decide +kernel
theorem dX6_readsPerson_100 : decode cX6_readsPerson 100 = .ok (.aload_n 0, 1) := by decide +kernel
theorem dX6_readsPerson_101 : decode cX6_readsPerson 101 = .ok (.ldc 246, 2) := by decide +kernel
theorem dX6_readsPerson_103 : decode cX6_readsPerson 103 = .ok (.invokevirtual 182, 3) := by decide +kernel
theorem dX6_readsPerson_106 : decode cX6_readsPerson 106 = .ok (.ifCond .eq 11, 3) := by decide +kernel
theorem dX6_readsPerson_109 : decode cX6_readsPerson 109 = .ok (.aload_n 0, 1) := by decide +kernel
theorem dX6_readsPerson_110 : decode cX6_readsPerson 110 = .ok (.iconst 3, 1) := by decide +kernel
theorem dX6_readsPerson_111 : decode cX6_readsPerson 111 = .ok (.invokevirtual 248, 3) := by decide +kernel
theorem dX6_readsPerson_114 : decode cX6_readsPerson 114 = .ok (.ifCond .ne 5, 3) := by decide +kernel
theorem dX6_readsPerson_117 : decode cX6_readsPerson 117 = .ok (.iconst 0, 1) := by decide +kernel
theorem dX6_readsPerson_118 : decode cX6_readsPerson 118 = .ok (.ireturn, 1) := by decide +kernel
theorem dX6_readsPerson_119 : decode cX6_readsPerson 119 = .ok (.aload_n 0, 1) := by decide +kernel
theorem dX6_readsPerson_120 : decode cX6_readsPerson 120 = .ok (.getfield 38, 3) := by decide +kernel
theorem dX6_readsPerson_123 : decode cX6_readsPerson 123 = .ok (.aload_n 2, 1) := by decide +kernel
theorem dX6_readsPerson_124 : decode cX6_readsPerson 124 = .ok (.getfield 251, 3) := by decide +kernel
theorem dX6_readsPerson_127 : decode cX6_readsPerson 127 = .ok (.iconst 0, 1) := by decide +kernel
theorem dX6_readsPerson_128 : decode cX6_readsPerson 128 = .ok (.iconst 3, 1) := by decide +kernel
theorem dX6_readsPerson_129 : decode cX6_readsPerson 129 = .ok (.invokestatic 254, 3) := by decide +kernel
theorem dX6_readsPerson_132 : decode cX6_readsPerson 132 = .ok (.aload_n 0, 1) := by decide +kernel
theorem dX6_readsPerson_133 : decode cX6_readsPerson 133 = .ok (.ldc_w 258, 3) := by decide +kernel
theorem dX6_readsPerson_136 : decode cX6_readsPerson 136 = .ok (.invokevirtual 182, 3) := by decide +kernel
theorem dX6_readsPerson_139 : decode cX6_readsPerson 139 = .ok (.ifCond .eq 11, 3) := by decide +kernel
theorem dX6_readsPerson_142 : decode cX6_readsPerson 142 = .ok (.aload_n 0, 1) := by decide +kernel
theorem dX6_readsPerson_143 : decode cX6_readsPerson 143 = .ok (.iconst 2, 1) := by decide +kernel
theorem dX6_readsPerson_144 : decode cX6_readsPerson 144 = .ok (.invokevirtual 248, 3) := by decide +kernel
theorem dX6_readsPerson_147 : decode cX6_readsPerson 147 = .ok (.ifCond .ne 5, 3) := by decide +kernel
theorem dX6_readsPerson_150 : decode cX6_readsPerson 150 = .ok (.iconst 0, 1) := by decide +kernel
theorem dX6_readsPerson_151 : decode cX6_readsPerson 151 = .ok (.ireturn, 1) := by decide +kernel
theorem dX6_readsPerson_152 : decode cX6_readsPerson 152 = .ok (.aload_n 0, 1) := by decide +kernel
theorem dX6_readsPerson_153 : decode cX6_readsPerson 153 = .ok (.getfield 38, 3) := by decide +kernel
theorem dX6_readsPerson_156 : decode cX6_readsPerson 156 = .ok (.aload_n 2, 1) := by decide +kernel
theorem dX6_readsPerson_157 : decode cX6_readsPerson 157 = .ok (.getfield 251, 3) := by decide +kernel
theorem dX6_readsPerson_160 : decode cX6_readsPerson 160 = .ok (.iconst 3, 1) := by decide +kernel
theorem dX6_readsPerson_161 : decode cX6_readsPerson 161 = .ok (.iconst 2, 1) := by decide +kernel
theorem dX6_readsPerson_162 : decode cX6_readsPerson 162 = .ok (.invokestatic 254, 3) := by decide +kernel
theorem dX6_readsPerson_165 : decode cX6_readsPerson 165 = .ok (.aload_n 1, 1) := by decide +kernel
theorem dX6_readsPerson_166 : decode cX6_readsPerson 166 = .ok (.dup, 1) := by decide +kernel
theorem dX6_readsPerson_167 : decode cX6_readsPerson 167 = .ok (.getfield 104, 3) := by decide +kernel
theorem dX6_readsPerson_170 : decode cX6_readsPerson 170 = .ok (.iconst 1, 1) := by decide +kernel
theorem dX6_readsPerson_171 : decode cX6_readsPerson 171 = .ok (.iadd, 1) := by decide +kernel
theorem dX6_readsPerson_172 : decode cX6_readsPerson 172 = .ok (.putfield 104, 3) := by decide +kernel
theorem dX6_readsPerson_175 : decode cX6_readsPerson 175 = .ok (.iconst 1, 1) := by decide +kernel
theorem dX6_readsPerson_176 : decode cX6_readsPerson 176 = .ok (.ireturn, 1) := by decide +kernel
theorem dX6_readsGood_0 : decode cX6_readsGood 0 = .ok (.aload_n 1, 1) := by decide +kernel
theorem dX6_readsGood_1 : decode cX6_readsGood 1 = .ok (.getfield 260, 3) := by decide +kernel
theorem dX6_readsGood_4 : decode cX6_readsGood 4 = .ok (.aload_n 1, 1) := by decide +kernel
theorem dX6_readsGood_5 : decode cX6_readsGood 5 = .ok (.getfield 162, 3) := by decide +kernel
theorem dX6_readsGood_8 : decode cX6_readsGood 8 = .ok (.aaload, 1) := by decide +kernel
theorem dX6_readsGood_9 : decode cX6_readsGood 9 = .ok (.astore_n 2, 1) := by decide +kernel
theorem dX6_readsGood_10 : decode cX6_readsGood 10 = .ok (.aload_n 0, 1) := by decide +kernel
theorem dX6_readsGood_11 : decode cX6_readsGood 11 = .ok (.invokevirtual 87, 3) := by decide +kernel
theorem dX6_readsGood_14 : decode cX6_readsGood 14 = .ok (.aload_n 0, 1) := by decide +kernel
theorem dX6_readsGood_15 : decode cX6_readsGood 15 = .ok (.iconst 4, 1) := by decide +kernel
theorem dX6_readsGood_16 : decode cX6_readsGood 16 = .ok (.aload_n 1, 1) := by decide +kernel
theorem dX6_readsGood_17 : decode cX6_readsGood 17 = .ok (.getfield 162, 3) := by decide +kernel
theorem dX6_readsGood_20 : decode cX6_readsGood 20 = .ok (.invokevirtual 200, 3) := by decide +kernel
theorem dX6_readsGood_23 : decode cX6_readsGood 23 = .ok (.ifCond .eq 24, 3) := by decide +kernel
theorem dX6_readsGood_26 : decode cX6_readsGood 26 = .ok (.aload_n 0, 1) := by decide +kernel
theorem dX6_readsGood_27 : decode cX6_readsGood 27 = .ok (.ldc_w 264, 3) := by decide +kernel
theorem dX6_readsGood_30 : decode cX6_readsGood 30 = .ok (.invokevirtual 182, 3) := by decide +kernel
theorem dX6_readsGood_33 : decode cX6_readsGood 33 = .ok (.ifCond .eq 14, 3) := by decide +kernel
theorem dX6_readsGood_36 : decode cX6_readsGood 36 = .ok (.aload_n 0, 1) := by decide +kernel
theorem dX6_readsGood_37 : decode cX6_readsGood 37 = .ok (.iconst 1, 1) := by decide +kernel
theorem dX6_readsGood_38 : decode cX6_readsGood 38 = .ok (.sipush 150, 3) := by decide +kernel
theorem dX6_readsGood_41 : decode cX6_readsGood 41 = .ok (.invokevirtual 186, 3) := by decide +kernel
theorem dX6_readsGood_44 : decode cX6_readsGood 44 = .ok (.ifCond .ne 5, 3) := by decide +kernel
theorem dX6_readsGood_47 : decode cX6_readsGood 47 = .ok (.iconst 0, 1) := by decide +kernel
theorem dX6_readsGood_48 : decode cX6_readsGood 48 = .ok (.ireturn, 1) := by decide +kernel
theorem dX6_readsGood_49 : decode cX6_readsGood 49 = .ok (.aload_n 2, 1) := by decide +kernel
theorem dX6_readsGood_50 : decode cX6_readsGood 50 = .ok (.aload_n 0, 1) := by decide +kernel
theorem dX6_readsGood_51 : decode cX6_readsGood 51 = .ok (.getfield 38, 3) := by decide +kernel
theorem dX6_readsGood_54 : decode cX6_readsGood 54 = .ok (.putfield 266, 3) := by decide +kernel
theorem dX6_readsGood_57 : decode cX6_readsGood 57 = .ok (.aload_n 0, 1) := by decide +kernel
theorem dX6_readsGood_58 : decode cX6_readsGood 58 = .ok (.ldc_w 271, 3) := by decide +kernel
theorem dX6_readsGood_61 : decode cX6_readsGood 61 = .ok (.invokevirtual 182, 3) := by decide +kernel
theorem dX6_readsGood_64 : decode cX6_readsGood 64 = .ok (.ifCond .eq 11, 3) := by decide +kernel
theorem dX6_readsGood_67 : decode cX6_readsGood 67 = .ok (.aload_n 0, 1) := by decide +kernel
theorem dX6_readsGood_68 : decode cX6_readsGood 68 = .ok (.iconst 1, 1) := by decide +kernel
theorem dX6_readsGood_69 : decode cX6_readsGood 69 = .ok (.invokevirtual 208, 3) := by decide +kernel
theorem dX6_readsGood_72 : decode cX6_readsGood 72 = .ok (.ifCond .ne 5, 3) := by decide +kernel
theorem dX6_readsGood_75 : decode cX6_readsGood 75 = .ok (.iconst 0, 1) := by decide +kernel
theorem dX6_readsGood_76 : decode cX6_readsGood 76 = .ok (.ireturn, 1) := by decide +kernel
theorem dX6_readsGood_77 : decode cX6_readsGood 77 = .ok (.aload_n 2, 1) := by decide +kernel
theorem dX6_readsGood_78 : decode cX6_readsGood 78 = .ok (.aload_n 0, 1) := by decide +kernel
theorem dX6_readsGood_79 : decode cX6_readsGood 79 = .ok (.getfield 38, 3) := by decide +kernel
theorem dX6_readsGood_82 : decode cX6_readsGood 82 = .ok (.putfield 272, 3) := by decide +kernel
theorem dX6_readsGood_85 : decode cX6_readsGood 85 = .ok (.aload_n 0, 1) := by decide +kernel
theorem dX6_readsGood_86 : decode cX6_readsGood 86 = .ok (.ldc_w 275, 3) := by decide +kernel
theorem dX6_readsGood_89 : decode cX6_readsGood 89 = .ok (.invokevirtual 182, 3) := by decide +kernel
theorem dX6_readsGood_92 : decode cX6_readsGood 92 = .ok (.ifCond .eq 11, 3) := by decide +kernel
theorem dX6_readsGood_95 : decode cX6_readsGood 95 = .ok (.aload_n 0, 1) := by decide +kernel
theorem dX6_readsGood_96 : decode cX6_readsGood 96 = .ok (.iconst 1, 1) := by decide +kernel
theorem dX6_readsGood_97 : decode cX6_readsGood 97 = .ok (.invokevirtual 211, 3) := by decide +kernel
theorem dX6_readsGood_100 : decode cX6_readsGood 100 = .ok (.ifCond .ne 5, 3) := by decide +kernel
theorem dX6_readsGood_103 : decode cX6_readsGood 103 = .ok (.iconst 0, 1) := by decide +kernel
theorem dX6_readsGood_104 : decode cX6_readsGood 104 = .ok (.ireturn, 1) := by decide +kernel
theorem dX6_readsGood_105 : decode cX6_readsGood 105 = .ok (.aload_n 0, 1) := by decide +kernel
theorem dX6_readsGood_106 : decode cX6_readsGood 106 = .ok (.getfield 38, 3) := by decide +kernel
theorem dX6_readsGood_109 : decode cX6_readsGood 109 = .ok (.aload_n 2, 1) := by decide +kernel
theorem dX6_readsGood_110 : decode cX6_readsGood 110 = .ok (.getfield 272, 3) := by decide +kernel
theorem dX6_readsGood_113 : decode cX6_readsGood 113 = .ok (.if_icmp .ne 9, 3) := by decide +kernel
theorem dX6_readsGood_116 : decode cX6_readsGood 116 = .ok (.aload_n 0, 1) := by decide +kernel
theorem dX6_readsGood_117 : decode cX6_readsGood 117 = .ok (.iconst 3, 1) := by decide +kernel
theorem dX6_readsGood_118 : decode cX6_readsGood 118 = .ok (.invokevirtual 97, 3) := by decide +kernel
theorem dX6_readsGood_121 : decode cX6_readsGood 121 = .ok (.ireturn, 1) := by decide +kernel
theorem dX6_readsGood_122 : decode cX6_readsGood 122 = .ok (.aload_n 2, 1) := by decide +kernel
theorem dX6_readsGood_123 : decode cX6_readsGood 123 = .ok (.aload_n 0, 1) := by decide +kernel
theorem dX6_readsGood_124 : decode cX6_readsGood 124 = .ok (.getfield 38, 3) := by decide +kernel
theorem dX6_readsGood_127 : decode cX6_readsGood 127 = .ok (.putfield 277, 3) := by decide +kernel
theorem dX6_readsGood_130 : decode cX6_readsGood 130 = .ok (.aload_n 0, 1) := by decide +kernel
theorem dX6_readsGood_131 : decode cX6_readsGood 131 = .ok (.invokevirtual 87, 3) := by decide +kernel
theorem dX6_readsGood_134 : decode cX6_readsGood 134 = .ok (.aload_n 1, 1) := by decide +kernel
theorem dX6_readsGood_135 : decode cX6_readsGood 135 = .ok (.dup, 1) := by decide +kernel
theorem dX6_readsGood_136 : decode cX6_readsGood 136 = .ok (.getfield 162, 3) := by decide +kernel
theorem dX6_readsGood_139 : decode cX6_readsGood 139 = .ok (.iconst 1, 1) := by decide +kernel
theorem dX6_readsGood_140 : decode cX6_readsGood 140 = .ok (.iadd, 1) := by decide +kernel
theorem dX6_readsGood_141 : decode cX6_readsGood 141 = .ok (.putfield 162, 3) := by decide +kernel
theorem dX6_readsGood_144 : decode cX6_readsGood 144 = .ok (.iconst 1, 1) := by decide +kernel
theorem dX6_readsGood_145 : decode cX6_readsGood 145 = .ok (.ireturn, 1) := by decide +kernel
theorem dX6_readsVisit_0 : decode cX6_readsVisit 0 = .ok (.aload_n 1, 1) := by decide +kernel
theorem dX6_readsVisit_1 : decode cX6_readsVisit 1 = .ok (.getfield 280, 3) := by decide +kernel
theorem dX6_readsVisit_4 : decode cX6_readsVisit 4 = .ok (.aload_n 1, 1) := by decide +kernel
theorem dX6_readsVisit_5 : decode cX6_readsVisit 5 = .ok (.getfield 168, 3) := by decide +kernel
theorem dX6_readsVisit_8 : decode cX6_readsVisit 8 = .ok (.aaload, 1) := by decide +kernel
theorem dX6_readsVisit_9 : decode cX6_readsVisit 9 = .ok (.astore_n 2, 1) := by decide +kernel
theorem dX6_readsVisit_10 : decode cX6_readsVisit 10 = .ok (.aload_n 0, 1) := by decide +kernel
theorem dX6_readsVisit_11 : decode cX6_readsVisit 11 = .ok (.invokevirtual 87, 3) := by decide +kernel
theorem dX6_readsVisit_14 : decode cX6_readsVisit 14 = .ok (.aload_n 0, 1) := by decide +kernel
theorem dX6_readsVisit_15 : decode cX6_readsVisit 15 = .ok (.iconst 3, 1) := by decide +kernel
theorem dX6_readsVisit_16 : decode cX6_readsVisit 16 = .ok (.invokevirtual 208, 3) := by decide +kernel
theorem dX6_readsVisit_19 : decode cX6_readsVisit 19 = .ok (.ifCond .ne 5, 3) := by decide +kernel
theorem dX6_readsVisit_22 : decode cX6_readsVisit 22 = .ok (.iconst 0, 1) := by decide +kernel
theorem dX6_readsVisit_23 : decode cX6_readsVisit 23 = .ok (.ireturn, 1) := by decide +kernel
theorem dX6_readsVisit_24 : decode cX6_readsVisit 24 = .ok (.aload_n 2, 1) := by decide +kernel
theorem dX6_readsVisit_25 : decode cX6_readsVisit 25 = .ok (.aload_n 0, 1) := by decide +kernel
theorem dX6_readsVisit_26 : decode cX6_readsVisit 26 = .ok (.getfield 38, 3) := by decide +kernel
theorem dX6_readsVisit_29 : decode cX6_readsVisit 29 = .ok (.putfield 284, 3) := by decide +kernel
theorem dX6_readsVisit_32 : decode cX6_readsVisit 32 = .ok (.aload_n 0, 1) := by decide +kernel
theorem dX6_readsVisit_33 : decode cX6_readsVisit 33 = .ok (.iconst 1, 1) := by decide +kernel
theorem dX6_readsVisit_34 : decode cX6_readsVisit 34 = .ok (.invokevirtual 208, 3) := by decide +kernel
theorem dX6_readsVisit_37 : decode cX6_readsVisit 37 = .ok (.ifCond .ne 5, 3) := by decide +kernel
theorem dX6_readsVisit_40 : decode cX6_readsVisit 40 = .ok (.iconst 0, 1) := by decide +kernel
theorem dX6_readsVisit_41 : decode cX6_readsVisit 41 = .ok (.ireturn, 1) := by decide +kernel
theorem dX6_readsVisit_42 : decode cX6_readsVisit 42 = .ok (.aload_n 2, 1) := by decide +kernel
theorem dX6_readsVisit_43 : decode cX6_readsVisit 43 = .ok (.aload_n 0, 1) := by decide +kernel
theorem dX6_readsVisit_44 : decode cX6_readsVisit 44 = .ok (.getfield 38, 3) := by decide +kernel
theorem dX6_readsVisit_47 : decode cX6_readsVisit 47 = .ok (.putfield 289, 3) := by decide +kernel
theorem dX6_readsVisit_50 : decode cX6_readsVisit 50 = .ok (.aload_n 0, 1) := by decide +kernel
theorem dX6_readsVisit_51 : decode cX6_readsVisit 51 = .ok (.ldc_w 292, 3) := by decide +kernel
theorem dX6_readsVisit_54 : decode cX6_readsVisit 54 = .ok (.invokevirtual 182, 3) := by decide +kernel
theorem dX6_readsVisit_57 : decode cX6_readsVisit 57 = .ok (.ifCond .eq 13, 3) := by decide +kernel
theorem dX6_readsVisit_60 : decode cX6_readsVisit 60 = .ok (.aload_n 0, 1) := by decide +kernel
theorem dX6_readsVisit_61 : decode cX6_readsVisit 61 = .ok (.iconst 0, 1) := by decide +kernel
theorem dX6_readsVisit_62 : decode cX6_readsVisit 62 = .ok (.bipush 23, 2) := by decide +kernel
theorem dX6_readsVisit_64 : decode cX6_readsVisit 64 = .ok (.invokevirtual 186, 3) := by decide +kernel
theorem dX6_readsVisit_67 : decode cX6_readsVisit 67 = .ok (.ifCond .ne 5, 3) := by decide +kernel
theorem dX6_readsVisit_70 : decode cX6_readsVisit 70 = .ok (.iconst 0, 1) := by decide +kernel
theorem dX6_readsVisit_71 : decode cX6_readsVisit 71 = .ok (.ireturn, 1) := by decide +kernel
theorem dX6_readsVisit_72 : decode cX6_readsVisit 72 = .ok (.aload_n 2, 1) := by decide +kernel
theorem dX6_readsVisit_73 : decode cX6_readsVisit 73 = .ok (.aload_n 0, 1) := by decide +kernel
theorem dX6_readsVisit_74 : decode cX6_readsVisit 74 = .ok (.getfield 38, 3) := by decide +kernel
theorem dX6_readsVisit_77 : decode cX6_readsVisit 77 = .ok (.putfield 294, 3) := by decide +kernel
theorem dX6_readsVisit_80 : decode cX6_readsVisit 80 = .ok (.aload_n 1, 1) := by decide +kernel
theorem dX6_readsVisit_81 : decode cX6_readsVisit 81 = .ok (.dup, 1) := by decide +kernel
theorem dX6_readsVisit_82 : decode cX6_readsVisit 82 = .ok (.getfield 168, 3) := by decide +kernel
theorem dX6_readsVisit_85 : decode cX6_readsVisit 85 = .ok (.iconst 1, 1) := by decide +kernel
theorem dX6_readsVisit_86 : decode cX6_readsVisit 86 = .ok (.iadd, 1) := by decide +kernel
theorem dX6_readsVisit_87 : decode cX6_readsVisit 87 = .ok (.putfield 168, 3) := by decide +kernel
theorem dX6_readsVisit_90 : decode cX6_readsVisit 90 = .ok (.iconst 1, 1) := by decide +kernel
theorem dX6_readsVisit_91 : decode cX6_readsVisit 91 = .ok (.ireturn, 1) := by decide +kernel
theorem dX6_readsPrint_0 : decode cX6_readsPrint 0 = .ok (.aload_n 1, 1) := by decide +kernel
theorem dX6_readsPrint_1 : decode cX6_readsPrint 1 = .ok (.getfield 296, 3) := by decide +kernel
theorem dX6_readsPrint_4 : decode cX6_readsPrint 4 = .ok (.aload_n 1, 1) := by decide +kernel
theorem dX6_readsPrint_5 : decode cX6_readsPrint 5 = .ok (.getfield 174, 3) := by decide +kernel
theorem dX6_readsPrint_8 : decode cX6_readsPrint 8 = .ok (.aaload, 1) := by decide +kernel
theorem dX6_readsPrint_9 : decode cX6_readsPrint 9 = .ok (.astore_n 2, 1) := by decide +kernel
theorem dX6_readsPrint_10 : decode cX6_readsPrint 10 = .ok (.aload_n 0, 1) := by decide +kernel
theorem dX6_readsPrint_11 : decode cX6_readsPrint 11 = .ok (.invokevirtual 87, 3) := by decide +kernel
theorem dX6_readsPrint_14 : decode cX6_readsPrint 14 = .ok (.aload_n 0, 1) := by decide +kernel
theorem dX6_readsPrint_15 : decode cX6_readsPrint 15 = .ok (.iconst 1, 1) := by decide +kernel
theorem dX6_readsPrint_16 : decode cX6_readsPrint 16 = .ok (.invokevirtual 208, 3) := by decide +kernel
theorem dX6_readsPrint_19 : decode cX6_readsPrint 19 = .ok (.ifCond .ne 5, 3) := by decide +kernel
theorem dX6_readsPrint_22 : decode cX6_readsPrint 22 = .ok (.iconst 0, 1) := by decide +kernel
theorem dX6_readsPrint_23 : decode cX6_readsPrint 23 = .ok (.ireturn, 1) := by decide +kernel
theorem dX6_readsPrint_24 : decode cX6_readsPrint 24 = .ok (.aload_n 2, 1) := by decide +kernel
theorem dX6_readsPrint_25 : decode cX6_readsPrint 25 = .ok (.aload_n 0, 1) := by decide +kernel
theorem dX6_readsPrint_26 : decode cX6_readsPrint 26 = .ok (.getfield 38, 3) := by decide +kernel
theorem dX6_readsPrint_29 : decode cX6_readsPrint 29 = .ok (.putfield 300, 3) := by decide +kernel
theorem dX6_readsPrint_32 : decode cX6_readsPrint 32 = .ok (.aload_n 0, 1) := by decide +kernel
theorem dX6_readsPrint_33 : decode cX6_readsPrint 33 = .ok (.iconst 2, 1) := by decide +kernel
theorem dX6_readsPrint_34 : decode cX6_readsPrint 34 = .ok (.invokevirtual 248, 3) := by decide +kernel
theorem dX6_readsPrint_37 : decode cX6_readsPrint 37 = .ok (.ifCond .ne 5, 3) := by decide +kernel
theorem dX6_readsPrint_40 : decode cX6_readsPrint 40 = .ok (.iconst 0, 1) := by decide +kernel
theorem dX6_readsPrint_41 : decode cX6_readsPrint 41 = .ok (.ireturn, 1) := by decide +kernel
theorem dX6_readsPrint_42 : decode cX6_readsPrint 42 = .ok (.aload_n 2, 1) := by decide +kernel
theorem dX6_readsPrint_43 : decode cX6_readsPrint 43 = .ok (.aload_n 0, 1) := by decide +kernel
theorem dX6_readsPrint_44 : decode cX6_readsPrint 44 = .ok (.getfield 38, 3) := by decide +kernel
theorem dX6_readsPrint_47 : decode cX6_readsPrint 47 = .ok (.putfield 303, 3) := by decide +kernel
theorem dX6_readsPrint_50 : decode cX6_readsPrint 50 = .ok (.aload_n 0, 1) := by decide +kernel
theorem dX6_readsPrint_51 : decode cX6_readsPrint 51 = .ok (.ldc_w 306, 3) := by decide +kernel
theorem dX6_readsPrint_54 : decode cX6_readsPrint 54 = .ok (.invokevirtual 182, 3) := by decide +kernel
theorem dX6_readsPrint_57 : decode cX6_readsPrint 57 = .ok (.ifCond .eq 13, 3) := by decide +kernel
theorem dX6_readsPrint_60 : decode cX6_readsPrint 60 = .ok (.aload_n 0, 1) := by decide +kernel
theorem dX6_readsPrint_61 : decode cX6_readsPrint 61 = .ok (.iconst 0, 1) := by decide +kernel
theorem dX6_readsPrint_62 : decode cX6_readsPrint 62 = .ok (.bipush 20, 2) := by decide +kernel
theorem dX6_readsPrint_64 : decode cX6_readsPrint 64 = .ok (.invokevirtual 186, 3) := by decide +kernel
theorem dX6_readsPrint_67 : decode cX6_readsPrint 67 = .ok (.ifCond .ne 5, 3) := by decide +kernel
theorem dX6_readsPrint_70 : decode cX6_readsPrint 70 = .ok (.iconst 0, 1) := by decide +kernel
theorem dX6_readsPrint_71 : decode cX6_readsPrint 71 = .ok (.ireturn, 1) := by decide +kernel
theorem dX6_readsPrint_72 : decode cX6_readsPrint 72 = .ok (.aload_n 2, 1) := by decide +kernel
theorem dX6_readsPrint_73 : decode cX6_readsPrint 73 = .ok (.aload_n 0, 1) := by decide +kernel
theorem dX6_readsPrint_74 : decode cX6_readsPrint 74 = .ok (.getfield 38, 3) := by decide +kernel
theorem dX6_readsPrint_77 : decode cX6_readsPrint 77 = .ok (.putfield 308, 3) := by decide +kernel
theorem dX6_readsPrint_80 : decode cX6_readsPrint 80 = .ok (.aload_n 1, 1) := by decide +kernel
theorem dX6_readsPrint_81 : decode cX6_readsPrint 81 = .ok (.dup, 1) := by decide +kernel
theorem dX6_readsPrint_82 : decode cX6_readsPrint 82 = .ok (.getfield 174, 3) := by decide +kernel
theorem dX6_readsPrint_85 : decode cX6_readsPrint 85 = .ok (.iconst 1, 1) := by decide +kernel
theorem dX6_readsPrint_86 : decode cX6_readsPrint 86 = .ok (.iadd, 1) := by decide +kernel
theorem dX6_readsPrint_87 : decode cX6_readsPrint 87 = .ok (.putfield 174, 3) := by decide +kernel
theorem dX6_readsPrint_90 : decode cX6_readsPrint 90 = .ok (.iconst 1, 1) := by decide +kernel
theorem dX6_readsPrint_91 : decode cX6_readsPrint 91 = .ok (.ireturn, 1) := by decide +kernel
theorem dX6_takesWord_0 : decode cX6_takesWord 0 = .ok (.aload_n 0, 1) := by decide +kernel
theorem dX6_takesWord_1 : decode cX6_takesWord 1 = .ok (.aload_n 1, 1) := by decide +kernel
theorem dX6_takesWord_2 : decode cX6_takesWord 2 = .ok (.invokevirtual 310, 3) := by decide +kernel
theorem dX6_takesWord_5 : decode cX6_takesWord 5 = .ok (.ifCond .ne 9, 3) := by decide +kernel
theorem dX6_takesWord_8 : decode cX6_takesWord 8 = .ok (.aload_n 0, 1) := by decide +kernel
theorem dX6_takesWord_9 : decode cX6_takesWord 9 = .ok (.iconst 1, 1) := by decide +kernel
theorem dX6_takesWord_10 : decode cX6_takesWord 10 = .ok (.invokevirtual 97, 3) := by decide +kernel
theorem dX6_takesWord_13 : decode cX6_takesWord 13 = .ok (.ireturn, 1) := by decide +kernel
theorem dX6_takesWord_14 : decode cX6_takesWord 14 = .ok (.aload_n 0, 1) := by decide +kernel
theorem dX6_takesWord_15 : decode cX6_takesWord 15 = .ok (.invokevirtual 87, 3) := by decide +kernel
theorem dX6_takesWord_18 : decode cX6_takesWord 18 = .ok (.iconst 1, 1) := by decide +kernel
theorem dX6_takesWord_19 : decode cX6_takesWord 19 = .ok (.ireturn, 1) := by decide +kernel
theorem dX6_takesWhole_0 : decode cX6_takesWhole 0 = .ok (.aload_n 0, 1) := by decide +kernel
theorem dX6_takesWhole_1 : decode cX6_takesWhole 1 = .ok (.getfield 31, 3) := by decide +kernel
theorem dX6_takesWhole_4 : decode cX6_takesWhole 4 = .ok (.iconst 2, 1) := by decide +kernel
theorem dX6_takesWhole_5 : decode cX6_takesWhole 5 = .ok (.if_icmp .eq 9, 3) := by decide +kernel
theorem dX6_takesWhole_8 : decode cX6_takesWhole 8 = .ok (.aload_n 0, 1) := by decide +kernel
theorem dX6_takesWhole_9 : decode cX6_takesWhole 9 = .ok (.iconst 1, 1) := by decide +kernel
theorem dX6_takesWhole_10 : decode cX6_takesWhole 10 = .ok (.invokevirtual 97, 3) := by decide +kernel
theorem dX6_takesWhole_13 : decode cX6_takesWhole 13 = .ok (.ireturn, 1) := by decide +kernel
theorem dX6_takesWhole_14 : decode cX6_takesWhole 14 = .ok (.aload_n 0, 1) := by decide +kernel
theorem dX6_takesWhole_15 : decode cX6_takesWhole 15 = .ok (.getfield 34, 3) := by decide +kernel
theorem dX6_takesWhole_18 : decode cX6_takesWhole 18 = .ok (.iload_n 1, 1) := by decide +kernel
theorem dX6_takesWhole_19 : decode cX6_takesWhole 19 = .ok (.i2l, 1) := by decide +kernel
theorem dX6_takesWhole_20 : decode cX6_takesWhole 20 = .ok (.lcmp, 1) := by decide +kernel
theorem dX6_takesWhole_21 : decode cX6_takesWhole 21 = .ok (.ifCond .lt 13, 3) := by decide +kernel
theorem dX6_takesWhole_24 : decode cX6_takesWhole 24 = .ok (.aload_n 0, 1) := by decide +kernel
theorem dX6_takesWhole_25 : decode cX6_takesWhole 25 = .ok (.getfield 34, 3) := by decide +kernel
theorem dX6_takesWhole_28 : decode cX6_takesWhole 28 = .ok (.iload_n 2, 1) := by decide +kernel
theorem dX6_takesWhole_29 : decode cX6_takesWhole 29 = .ok (.i2l, 1) := by decide +kernel
theorem dX6_takesWhole_30 : decode cX6_takesWhole 30 = .ok (.lcmp, 1) := by decide +kernel
theorem dX6_takesWhole_31 : decode cX6_takesWhole 31 = .ok (.ifCond .le 9, 3) := by decide +kernel
theorem dX6_takesWhole_34 : decode cX6_takesWhole 34 = .ok (.aload_n 0, 1) := by decide +kernel
theorem dX6_takesWhole_35 : decode cX6_takesWhole 35 = .ok (.iconst 4, 1) := by decide +kernel
theorem dX6_takesWhole_36 : decode cX6_takesWhole 36 = .ok (.invokevirtual 97, 3) := by decide +kernel
theorem dX6_takesWhole_39 : decode cX6_takesWhole 39 = .ok (.ireturn, 1) := by decide +kernel
theorem dX6_takesWhole_40 : decode cX6_takesWhole 40 = .ok (.aload_n 0, 1) := by decide +kernel
theorem dX6_takesWhole_41 : decode cX6_takesWhole 41 = .ok (.aload_n 0, 1) := by decide +kernel
theorem dX6_takesWhole_42 : decode cX6_takesWhole 42 = .ok (.getfield 34, 3) := by decide +kernel
theorem dX6_takesWhole_45 : decode cX6_takesWhole 45 = .ok (.l2i, 1) := by decide +kernel
theorem dX6_takesWhole_46 : decode cX6_takesWhole 46 = .ok (.putfield 38, 3) := by decide +kernel
theorem dX6_takesWhole_49 : decode cX6_takesWhole 49 = .ok (.aload_n 0, 1) := by decide +kernel
theorem dX6_takesWhole_50 : decode cX6_takesWhole 50 = .ok (.invokevirtual 87, 3) := by decide +kernel
theorem dX6_takesWhole_53 : decode cX6_takesWhole 53 = .ok (.iconst 1, 1) := by decide +kernel
theorem dX6_takesWhole_54 : decode cX6_takesWhole 54 = .ok (.ireturn, 1) := by decide +kernel
theorem dX6_takesKind_0 : decode cX6_takesKind 0 = .ok (.aload_n 0, 1) := by decide +kernel
theorem dX6_takesKind_1 : decode cX6_takesKind 1 = .ok (.ldc_w 313, 3) := by decide +kernel
theorem dX6_takesKind_4 : decode cX6_takesKind 4 = .ok (.invokevirtual 310, 3) := by decide +kernel
theorem dX6_takesKind_7 : decode cX6_takesKind 7 = .ok (.ifCond .eq 11, 3) := by decide +kernel
theorem dX6_takesKind_10 : decode cX6_takesKind 10 = .ok (.aload_n 0, 1) := by decide +kernel
theorem dX6_takesKind_11 : decode cX6_takesKind 11 = .ok (.iconst 0, 1) := by decide +kernel
theorem dX6_takesKind_12 : decode cX6_takesKind 12 = .ok (.putfield 38, 3) := by decide +kernel
theorem dX6_takesKind_15 : decode cX6_takesKind 15 = .ok (.goto 45, 3) := by decide +kernel
theorem dX6_takesKind_18 : decode cX6_takesKind 18 = .ok (.aload_n 0, 1) := by decide +kernel
theorem dX6_takesKind_19 : decode cX6_takesKind 19 = .ok (.ldc_w 315, 3) := by decide +kernel
theorem dX6_takesKind_22 : decode cX6_takesKind 22 = .ok (.invokevirtual 310, 3) := by decide +kernel
theorem dX6_takesKind_25 : decode cX6_takesKind 25 = .ok (.ifCond .eq 11, 3) := by decide +kernel
theorem dX6_takesKind_28 : decode cX6_takesKind 28 = .ok (.aload_n 0, 1) := by decide +kernel
theorem dX6_takesKind_29 : decode cX6_takesKind 29 = .ok (.iconst 1, 1) := by decide +kernel
theorem dX6_takesKind_30 : decode cX6_takesKind 30 = .ok (.putfield 38, 3) := by decide +kernel
theorem dX6_takesKind_33 : decode cX6_takesKind 33 = .ok (.goto 27, 3) := by decide +kernel
theorem dX6_takesKind_36 : decode cX6_takesKind 36 = .ok (.aload_n 0, 1) := by decide +kernel
theorem dX6_takesKind_37 : decode cX6_takesKind 37 = .ok (.ldc_w 317, 3) := by decide +kernel
theorem dX6_takesKind_40 : decode cX6_takesKind 40 = .ok (.invokevirtual 310, 3) := by decide +kernel
theorem dX6_takesKind_43 : decode cX6_takesKind 43 = .ok (.ifCond .eq 11, 3) := by decide +kernel
theorem dX6_takesKind_46 : decode cX6_takesKind 46 = .ok (.aload_n 0, 1) := by decide +kernel
theorem dX6_takesKind_47 : decode cX6_takesKind 47 = .ok (.iconst 2, 1) := by decide +kernel
theorem dX6_takesKind_48 : decode cX6_takesKind 48 = .ok (.putfield 38, 3) := by decide +kernel
theorem dX6_takesKind_51 : decode cX6_takesKind 51 = .ok (.goto 9, 3) := by decide +kernel
theorem dX6_takesKind_54 : decode cX6_takesKind 54 = .ok (.aload_n 0, 1) := by decide +kernel
theorem dX6_takesKind_55 : decode cX6_takesKind 55 = .ok (.iconst 1, 1) := by decide +kernel
theorem dX6_takesKind_56 : decode cX6_takesKind 56 = .ok (.invokevirtual 97, 3) := by decide +kernel
theorem dX6_takesKind_59 : decode cX6_takesKind 59 = .ok (.ireturn, 1) := by decide +kernel
theorem dX6_takesKind_60 : decode cX6_takesKind 60 = .ok (.aload_n 0, 1) := by decide +kernel
theorem dX6_takesKind_61 : decode cX6_takesKind 61 = .ok (.invokevirtual 87, 3) := by decide +kernel
theorem dX6_takesKind_64 : decode cX6_takesKind 64 = .ok (.iconst 1, 1) := by decide +kernel
theorem dX6_takesKind_65 : decode cX6_takesKind 65 = .ok (.ireturn, 1) := by decide +kernel
theorem dX6_takesLook_0 : decode cX6_takesLook 0 = .ok (.aload_n 0, 1) := by decide +kernel
theorem dX6_takesLook_1 : decode cX6_takesLook 1 = .ok (.getfield 31, 3) := by decide +kernel
theorem dX6_takesLook_4 : decode cX6_takesLook 4 = .ok (.iconst 1, 1) := by decide +kernel
theorem dX6_takesLook_5 : decode cX6_takesLook 5 = .ok (.if_icmp .eq 9, 3) := by decide +kernel
theorem dX6_takesLook_8 : decode cX6_takesLook 8 = .ok (.aload_n 0, 1) := by decide +kernel
theorem dX6_takesLook_9 : decode cX6_takesLook 9 = .ok (.iconst 1, 1) := by decide +kernel
theorem dX6_takesLook_10 : decode cX6_takesLook 10 = .ok (.invokevirtual 97, 3) := by decide +kernel
theorem dX6_takesLook_13 : decode cX6_takesLook 13 = .ok (.ireturn, 1) := by decide +kernel
theorem dX6_takesLook_14 : decode cX6_takesLook 14 = .ok (.aload_n 0, 1) := by decide +kernel
theorem dX6_takesLook_15 : decode cX6_takesLook 15 = .ok (.getfield 28, 3) := by decide +kernel
theorem dX6_takesLook_18 : decode cX6_takesLook 18 = .ok (.aload_n 0, 1) := by decide +kernel
theorem dX6_takesLook_19 : decode cX6_takesLook 19 = .ok (.getfield 25, 3) := by decide +kernel
theorem dX6_takesLook_22 : decode cX6_takesLook 22 = .ok (.isub, 1) := by decide +kernel
theorem dX6_takesLook_23 : decode cX6_takesLook 23 = .ok (.iload_n 1, 1) := by decide +kernel
theorem dX6_takesLook_24 : decode cX6_takesLook 24 = .ok (.if_icmp .eq 10, 3) := by decide +kernel
theorem dX6_takesLook_27 : decode cX6_takesLook 27 = .ok (.aload_n 0, 1) := by decide +kernel
theorem dX6_takesLook_28 : decode cX6_takesLook 28 = .ok (.bipush 7, 2) := by decide +kernel
theorem dX6_takesLook_30 : decode cX6_takesLook 30 = .ok (.invokevirtual 97, 3) := by decide +kernel
theorem dX6_takesLook_33 : decode cX6_takesLook 33 = .ok (.ireturn, 1) := by decide +kernel
theorem dX6_takesLook_34 : decode cX6_takesLook 34 = .ok (.iconst 0, 1) := by decide +kernel
theorem dX6_takesLook_35 : decode cX6_takesLook 35 = .ok (.istore_n 2, 1) := by decide +kernel
theorem dX6_takesLook_36 : decode cX6_takesLook 36 = .ok (.aload_n 0, 1) := by decide +kernel
theorem dX6_takesLook_37 : decode cX6_takesLook 37 = .ok (.getfield 25, 3) := by decide +kernel
theorem dX6_takesLook_40 : decode cX6_takesLook 40 = .ok (.istore_n 3, 1) := by decide +kernel
theorem dX6_takesLook_41 : decode cX6_takesLook 41 = .ok (.iload_n 3, 1) := by decide +kernel
theorem dX6_takesLook_42 : decode cX6_takesLook 42 = .ok (.aload_n 0, 1) := by decide +kernel
theorem dX6_takesLook_43 : decode cX6_takesLook 43 = .ok (.getfield 28, 3) := by decide +kernel
theorem dX6_takesLook_46 : decode cX6_takesLook 46 = .ok (.if_icmp .ge 41, 3) := by decide +kernel
theorem dX6_takesLook_49 : decode cX6_takesLook 49 = .ok (.aload_n 0, 1) := by decide +kernel
theorem dX6_takesLook_50 : decode cX6_takesLook 50 = .ok (.getfield 18, 3) := by decide +kernel
theorem dX6_takesLook_53 : decode cX6_takesLook 53 = .ok (.iload_n 3, 1) := by decide +kernel
theorem dX6_takesLook_54 : decode cX6_takesLook 54 = .ok (.baload, 1) := by decide +kernel
theorem dX6_takesLook_55 : decode cX6_takesLook 55 = .ok (.bipush 100, 2) := by decide +kernel
theorem dX6_takesLook_57 : decode cX6_takesLook 57 = .ok (.if_icmp .le 10, 3) := by decide +kernel
theorem dX6_takesLook_60 : decode cX6_takesLook 60 = .ok (.aload_n 0, 1) := by decide +kernel
theorem dX6_takesLook_61 : decode cX6_takesLook 61 = .ok (.bipush 7, 2) := by decide +kernel
theorem dX6_takesLook_63 : decode cX6_takesLook 63 = .ok (.invokevirtual 97, 3) := by decide +kernel
theorem dX6_takesLook_66 : decode cX6_takesLook 66 = .ok (.ireturn, 1) := by decide +kernel
theorem dX6_takesLook_67 : decode cX6_takesLook 67 = .ok (.iconst 4, 1) := by decide +kernel
theorem dX6_takesLook_68 : decode cX6_takesLook 68 = .ok (.iload_n 2, 1) := by decide +kernel
theorem dX6_takesLook_69 : decode cX6_takesLook 69 = .ok (.imul, 1) := by decide +kernel
theorem dX6_takesLook_70 : decode cX6_takesLook 70 = .ok (.aload_n 0, 1) := by decide +kernel
theorem dX6_takesLook_71 : decode cX6_takesLook 71 = .ok (.getfield 18, 3) := by decide +kernel
theorem dX6_takesLook_74 : decode cX6_takesLook 74 = .ok (.iload_n 3, 1) := by decide +kernel
theorem dX6_takesLook_75 : decode cX6_takesLook 75 = .ok (.baload, 1) := by decide +kernel
theorem dX6_takesLook_76 : decode cX6_takesLook 76 = .ok (.bipush 97, 2) := by decide +kernel
theorem dX6_takesLook_78 : decode cX6_takesLook 78 = .ok (.isub, 1) := by decide +kernel
theorem dX6_takesLook_79 : decode cX6_takesLook 79 = .ok (.iadd, 1) := by decide +kernel
theorem dX6_takesLook_80 : decode cX6_takesLook 80 = .ok (.istore_n 2, 1) := by decide +kernel
theorem dX6_takesLook_81 : decode cX6_takesLook 81 = .ok (.iinc 3 1, 3) := by decide +kernel
theorem dX6_takesLook_84 : decode cX6_takesLook 84 = .ok (.goto (-43), 3) := by decide +kernel
theorem dX6_takesLook_87 : decode cX6_takesLook 87 = .ok (.aload_n 0, 1) := by decide +kernel
theorem dX6_takesLook_88 : decode cX6_takesLook 88 = .ok (.iload_n 2, 1) := by decide +kernel
theorem dX6_takesLook_89 : decode cX6_takesLook 89 = .ok (.putfield 38, 3) := by decide +kernel
theorem dX6_takesLook_92 : decode cX6_takesLook 92 = .ok (.aload_n 0, 1) := by decide +kernel
theorem dX6_takesLook_93 : decode cX6_takesLook 93 = .ok (.invokevirtual 87, 3) := by decide +kernel
theorem dX6_takesLook_96 : decode cX6_takesLook 96 = .ok (.iconst 1, 1) := by decide +kernel
theorem dX6_takesLook_97 : decode cX6_takesLook 97 = .ok (.ireturn, 1) := by decide +kernel
theorem dX6_spreadLook_0 : decode cX6_spreadLook 0 = .ok (.iload_n 0, 1) := by decide +kernel
theorem dX6_spreadLook_1 : decode cX6_spreadLook 1 = .ok (.istore 4, 2) := by decide +kernel
theorem dX6_spreadLook_3 : decode cX6_spreadLook 3 = .ok (.iload_n 2, 1) := by decide +kernel
theorem dX6_spreadLook_4 : decode cX6_spreadLook 4 = .ok (.iload_n 3, 1) := by decide +kernel
theorem dX6_spreadLook_5 : decode cX6_spreadLook 5 = .ok (.iadd, 1) := by decide +kernel
theorem dX6_spreadLook_6 : decode cX6_spreadLook 6 = .ok (.iconst 1, 1) := by decide +kernel
theorem dX6_spreadLook_7 : decode cX6_spreadLook 7 = .ok (.isub, 1) := by decide +kernel
theorem dX6_spreadLook_8 : decode cX6_spreadLook 8 = .ok (.istore 5, 2) := by decide +kernel
theorem dX6_spreadLook_10 : decode cX6_spreadLook 10 = .ok (.iload 5, 2) := by decide +kernel
theorem dX6_spreadLook_12 : decode cX6_spreadLook 12 = .ok (.iload_n 2, 1) := by decide +kernel
theorem dX6_spreadLook_13 : decode cX6_spreadLook 13 = .ok (.if_icmp .lt 23, 3) := by decide +kernel
theorem dX6_spreadLook_16 : decode cX6_spreadLook 16 = .ok (.aload_n 1, 1) := by decide +kernel
theorem dX6_spreadLook_17 : decode cX6_spreadLook 17 = .ok (.iload 5, 2) := by decide +kernel
theorem dX6_spreadLook_19 : decode cX6_spreadLook 19 = .ok (.iload 4, 2) := by decide +kernel
theorem dX6_spreadLook_21 : decode cX6_spreadLook 21 = .ok (.iconst 4, 1) := by decide +kernel
theorem dX6_spreadLook_22 : decode cX6_spreadLook 22 = .ok (.irem, 1) := by decide +kernel
theorem dX6_spreadLook_23 : decode cX6_spreadLook 23 = .ok (.iastore, 1) := by decide +kernel
theorem dX6_spreadLook_24 : decode cX6_spreadLook 24 = .ok (.iload 4, 2) := by decide +kernel
theorem dX6_spreadLook_26 : decode cX6_spreadLook 26 = .ok (.iconst 4, 1) := by decide +kernel
theorem dX6_spreadLook_27 : decode cX6_spreadLook 27 = .ok (.idiv, 1) := by decide +kernel
theorem dX6_spreadLook_28 : decode cX6_spreadLook 28 = .ok (.istore 4, 2) := by decide +kernel
theorem dX6_spreadLook_30 : decode cX6_spreadLook 30 = .ok (.iinc 5 (-1), 3) := by decide +kernel
theorem dX6_spreadLook_33 : decode cX6_spreadLook 33 = .ok (.goto (-23), 3) := by decide +kernel
theorem dX6_spreadLook_36 : decode cX6_spreadLook 36 = .ok (.return_, 1) := by decide +kernel
theorem dX6_takesNewName_0 : decode cX6_takesNewName 0 = .ok (.aload_n 0, 1) := by decide +kernel
theorem dX6_takesNewName_1 : decode cX6_takesNewName 1 = .ok (.invokevirtual 319, 3) := by decide +kernel
theorem dX6_takesNewName_4 : decode cX6_takesNewName 4 = .ok (.ifCond .ne 9, 3) := by decide +kernel
theorem dX6_takesNewName_7 : decode cX6_takesNewName 7 = .ok (.aload_n 0, 1) := by decide +kernel
theorem dX6_takesNewName_8 : decode cX6_takesNewName 8 = .ok (.iconst 1, 1) := by decide +kernel
theorem dX6_takesNewName_9 : decode cX6_takesNewName 9 = .ok (.invokevirtual 97, 3) := by decide +kernel
theorem dX6_takesNewName_12 : decode cX6_takesNewName 12 = .ok (.ireturn, 1) := by decide +kernel
theorem dX6_takesNewName_13 : decode cX6_takesNewName 13 = .ok (.aload_n 0, 1) := by decide +kernel
theorem dX6_takesNewName_14 : decode cX6_takesNewName 14 = .ok (.invokevirtual 322, 3) := by decide +kernel
theorem dX6_takesNewName_17 : decode cX6_takesNewName 17 = .ok (.iconst (-1), 1) := by decide +kernel
theorem dX6_takesNewName_18 : decode cX6_takesNewName 18 = .ok (.if_icmp .ne 12, 3) := by decide +kernel
theorem dX6_takesNewName_21 : decode cX6_takesNewName 21 = .ok (.aload_n 0, 1) := by decide +kernel
theorem dX6_takesNewName_22 : decode cX6_takesNewName 22 = .ok (.getfield 55, 3) := by decide +kernel
theorem dX6_takesNewName_25 : decode cX6_takesNewName 25 = .ok (.bipush 17, 2) := by decide +kernel
theorem dX6_takesNewName_27 : decode cX6_takesNewName 27 = .ok (.if_icmp .lt 9, 3) := by decide +kernel
theorem dX6_takesNewName_30 : decode cX6_takesNewName 30 = .ok (.aload_n 0, 1) := by decide +kernel
theorem dX6_takesNewName_31 : decode cX6_takesNewName 31 = .ok (.iconst 3, 1) := by decide +kernel
theorem dX6_takesNewName_32 : decode cX6_takesNewName 32 = .ok (.invokevirtual 97, 3) := by decide +kernel
theorem dX6_takesNewName_35 : decode cX6_takesNewName 35 = .ok (.ireturn, 1) := by decide +kernel
theorem dX6_takesNewName_36 : decode cX6_takesNewName 36 = .ok (.aload_n 0, 1) := by decide +kernel
theorem dX6_takesNewName_37 : decode cX6_takesNewName 37 = .ok (.getfield 45, 3) := by decide +kernel
theorem dX6_takesNewName_40 : decode cX6_takesNewName 40 = .ok (.aload_n 0, 1) := by decide +kernel
theorem dX6_takesNewName_41 : decode cX6_takesNewName 41 = .ok (.getfield 55, 3) := by decide +kernel
theorem dX6_takesNewName_44 : decode cX6_takesNewName 44 = .ok (.aload_n 0, 1) := by decide +kernel
theorem dX6_takesNewName_45 : decode cX6_takesNewName 45 = .ok (.getfield 34, 3) := by decide +kernel
theorem dX6_takesNewName_48 : decode cX6_takesNewName 48 = .ok (.lastore, 1) := by decide +kernel
theorem dX6_takesNewName_49 : decode cX6_takesNewName 49 = .ok (.aload_n 0, 1) := by decide +kernel
theorem dX6_takesNewName_50 : decode cX6_takesNewName 50 = .ok (.getfield 48, 3) := by decide +kernel
theorem dX6_takesNewName_53 : decode cX6_takesNewName 53 = .ok (.aload_n 0, 1) := by decide +kernel
theorem dX6_takesNewName_54 : decode cX6_takesNewName 54 = .ok (.getfield 55, 3) := by decide +kernel
theorem dX6_takesNewName_57 : decode cX6_takesNewName 57 = .ok (.iload_n 1, 1) := by decide +kernel
theorem dX6_takesNewName_58 : decode cX6_takesNewName 58 = .ok (.iastore, 1) := by decide +kernel
theorem dX6_takesNewName_59 : decode cX6_takesNewName 59 = .ok (.aload_n 0, 1) := by decide +kernel
theorem dX6_takesNewName_60 : decode cX6_takesNewName 60 = .ok (.getfield 52, 3) := by decide +kernel
theorem dX6_takesNewName_63 : decode cX6_takesNewName 63 = .ok (.aload_n 0, 1) := by decide +kernel
theorem dX6_takesNewName_64 : decode cX6_takesNewName 64 = .ok (.getfield 55, 3) := by decide +kernel
theorem dX6_takesNewName_67 : decode cX6_takesNewName 67 = .ok (.iload_n 2, 1) := by decide +kernel
theorem dX6_takesNewName_68 : decode cX6_takesNewName 68 = .ok (.iastore, 1) := by decide +kernel
theorem dX6_takesNewName_69 : decode cX6_takesNewName 69 = .ok (.aload_n 0, 1) := by decide +kernel
theorem dX6_takesNewName_70 : decode cX6_takesNewName 70 = .ok (.dup, 1) := by decide +kernel
theorem dX6_takesNewName_71 : decode cX6_takesNewName 71 = .ok (.getfield 55, 3) := by decide +kernel
theorem dX6_takesNewName_74 : decode cX6_takesNewName 74 = .ok (.iconst 1, 1) := by decide +kernel
theorem dX6_takesNewName_75 : decode cX6_takesNewName 75 = .ok (.iadd, 1) := by decide +kernel
theorem dX6_takesNewName_76 : decode cX6_takesNewName 76 = .ok (.putfield 55, 3) := by decide +kernel
theorem dX6_takesNewName_79 : decode cX6_takesNewName 79 = .ok (.aload_n 0, 1) := by decide +kernel
theorem dX6_takesNewName_80 : decode cX6_takesNewName 80 = .ok (.invokevirtual 87, 3) := by decide +kernel
theorem dX6_takesNewName_83 : decode cX6_takesNewName 83 = .ok (.iconst 1, 1) := by decide +kernel
theorem dX6_takesNewName_84 : decode cX6_takesNewName 84 = .ok (.ireturn, 1) := by decide +kernel
theorem dX6_takesName_0 : decode cX6_takesName 0 = .ok (.aload_n 0, 1) := by decide +kernel
theorem dX6_takesName_1 : decode cX6_takesName 1 = .ok (.iload_n 1, 1) := by decide +kernel
theorem dX6_takesName_2 : decode cX6_takesName 2 = .ok (.invokevirtual 211, 3) := by decide +kernel
theorem dX6_takesName_5 : decode cX6_takesName 5 = .ok (.ifCond .ne 5, 3) := by decide +kernel
theorem dX6_takesName_8 : decode cX6_takesName 8 = .ok (.iconst 0, 1) := by decide +kernel
theorem dX6_takesName_9 : decode cX6_takesName 9 = .ok (.ireturn, 1) := by decide +kernel
theorem dX6_takesName_10 : decode cX6_takesName 10 = .ok (.aload_n 0, 1) := by decide +kernel
theorem dX6_takesName_11 : decode cX6_takesName 11 = .ok (.invokevirtual 87, 3) := by decide +kernel
theorem dX6_takesName_14 : decode cX6_takesName 14 = .ok (.iconst 1, 1) := by decide +kernel
theorem dX6_takesName_15 : decode cX6_takesName 15 = .ok (.ireturn, 1) := by decide +kernel
theorem dX6_findsName_0 : decode cX6_findsName 0 = .ok (.aload_n 0, 1) := by decide +kernel
theorem dX6_findsName_1 : decode cX6_findsName 1 = .ok (.invokevirtual 319, 3) := by decide +kernel
theorem dX6_findsName_4 : decode cX6_findsName 4 = .ok (.ifCond .ne 9, 3) := by decide +kernel
theorem dX6_findsName_7 : decode cX6_findsName 7 = .ok (.aload_n 0, 1) := by decide +kernel
theorem dX6_findsName_8 : decode cX6_findsName 8 = .ok (.iconst 1, 1) := by decide +kernel
theorem dX6_findsName_9 : decode cX6_findsName 9 = .ok (.invokevirtual 97, 3) := by decide +kernel
theorem dX6_findsName_12 : decode cX6_findsName 12 = .ok (.ireturn, 1) := by decide +kernel
theorem dX6_findsName_13 : decode cX6_findsName 13 = .ok (.aload_n 0, 1) := by decide +kernel
theorem dX6_findsName_14 : decode cX6_findsName 14 = .ok (.invokevirtual 322, 3) := by decide +kernel
theorem dX6_findsName_17 : decode cX6_findsName 17 = .ok (.istore_n 2, 1) := by decide +kernel
theorem dX6_findsName_18 : decode cX6_findsName 18 = .ok (.iload_n 2, 1) := by decide +kernel
theorem dX6_findsName_19 : decode cX6_findsName 19 = .ok (.iconst (-1), 1) := by decide +kernel
theorem dX6_findsName_20 : decode cX6_findsName 20 = .ok (.if_icmp .eq 13, 3) := by decide +kernel
theorem dX6_findsName_23 : decode cX6_findsName 23 = .ok (.aload_n 0, 1) := by decide +kernel
theorem dX6_findsName_24 : decode cX6_findsName 24 = .ok (.getfield 48, 3) := by decide +kernel
theorem dX6_findsName_27 : decode cX6_findsName 27 = .ok (.iload_n 2, 1) := by decide +kernel
theorem dX6_findsName_28 : decode cX6_findsName 28 = .ok (.iaload, 1) := by decide +kernel
theorem dX6_findsName_29 : decode cX6_findsName 29 = .ok (.iload_n 1, 1) := by decide +kernel
theorem dX6_findsName_30 : decode cX6_findsName 30 = .ok (.if_icmp .eq 9, 3) := by decide +kernel
theorem dX6_findsName_33 : decode cX6_findsName 33 = .ok (.aload_n 0, 1) := by decide +kernel
theorem dX6_findsName_34 : decode cX6_findsName 34 = .ok (.iconst 2, 1) := by decide +kernel
theorem dX6_findsName_35 : decode cX6_findsName 35 = .ok (.invokevirtual 97, 3) := by decide +kernel
theorem dX6_findsName_38 : decode cX6_findsName 38 = .ok (.ireturn, 1) := by decide +kernel
theorem dX6_findsName_39 : decode cX6_findsName 39 = .ok (.aload_n 0, 1) := by decide +kernel
theorem dX6_findsName_40 : decode cX6_findsName 40 = .ok (.aload_n 0, 1) := by decide +kernel
theorem dX6_findsName_41 : decode cX6_findsName 41 = .ok (.getfield 52, 3) := by decide +kernel
theorem dX6_findsName_44 : decode cX6_findsName 44 = .ok (.iload_n 2, 1) := by decide +kernel
theorem dX6_findsName_45 : decode cX6_findsName 45 = .ok (.iaload, 1) := by decide +kernel
theorem dX6_findsName_46 : decode cX6_findsName 46 = .ok (.putfield 38, 3) := by decide +kernel
theorem dX6_findsName_49 : decode cX6_findsName 49 = .ok (.iconst 1, 1) := by decide +kernel
theorem dX6_findsName_50 : decode cX6_findsName 50 = .ok (.ireturn, 1) := by decide +kernel
theorem dX6_isName_0 : decode cX6_isName 0 = .ok (.aload_n 0, 1) := by decide +kernel
theorem dX6_isName_1 : decode cX6_isName 1 = .ok (.getfield 31, 3) := by decide +kernel
theorem dX6_isName_4 : decode cX6_isName 4 = .ok (.iconst 1, 1) := by decide +kernel
theorem dX6_isName_5 : decode cX6_isName 5 = .ok (.if_icmp .ne 15, 3) := by decide +kernel
theorem dX6_isName_8 : decode cX6_isName 8 = .ok (.aload_n 0, 1) := by decide +kernel
theorem dX6_isName_9 : decode cX6_isName 9 = .ok (.invokevirtual 134, 3) := by decide +kernel
theorem dX6_isName_12 : decode cX6_isName 12 = .ok (.iconst (-1), 1) := by decide +kernel
theorem dX6_isName_13 : decode cX6_isName 13 = .ok (.if_icmp .ne 7, 3) := by decide +kernel
theorem dX6_isName_16 : decode cX6_isName 16 = .ok (.iconst 1, 1) := by decide +kernel
theorem dX6_isName_17 : decode cX6_isName 17 = .ok (.goto 4, 3) := by decide +kernel
theorem dX6_isName_20 : decode cX6_isName 20 = .ok (.iconst 0, 1) := by decide +kernel
theorem dX6_isName_21 : decode cX6_isName 21 = .ok (.ireturn, 1) := by decide +kernel
theorem dX6_indexOfName_0 : decode cX6_indexOfName 0 = .ok (.iconst 0, 1) := by decide +kernel
theorem dX6_indexOfName_1 : decode cX6_indexOfName 1 = .ok (.istore_n 1, 1) := by decide +kernel
theorem dX6_indexOfName_2 : decode cX6_indexOfName 2 = .ok (.iload_n 1, 1) := by decide +kernel
theorem dX6_indexOfName_3 : decode cX6_indexOfName 3 = .ok (.aload_n 0, 1) := by decide +kernel
theorem dX6_indexOfName_4 : decode cX6_indexOfName 4 = .ok (.getfield 55, 3) := by decide +kernel
theorem dX6_indexOfName_7 : decode cX6_indexOfName 7 = .ok (.if_icmp .ge 25, 3) := by decide +kernel
theorem dX6_indexOfName_10 : decode cX6_indexOfName 10 = .ok (.aload_n 0, 1) := by decide +kernel
theorem dX6_indexOfName_11 : decode cX6_indexOfName 11 = .ok (.getfield 45, 3) := by decide +kernel
theorem dX6_indexOfName_14 : decode cX6_indexOfName 14 = .ok (.iload_n 1, 1) := by decide +kernel
theorem dX6_indexOfName_15 : decode cX6_indexOfName 15 = .ok (.laload, 1) := by decide +kernel
theorem dX6_indexOfName_16 : decode cX6_indexOfName 16 = .ok (.aload_n 0, 1) := by decide +kernel
theorem dX6_indexOfName_17 : decode cX6_indexOfName 17 = .ok (.getfield 34, 3) := by decide +kernel
theorem dX6_indexOfName_20 : decode cX6_indexOfName 20 = .ok (.lcmp, 1) := by decide +kernel
theorem dX6_indexOfName_21 : decode cX6_indexOfName 21 = .ok (.ifCond .ne 5, 3) := by decide +kernel
theorem dX6_indexOfName_24 : decode cX6_indexOfName 24 = .ok (.iload_n 1, 1) := by decide +kernel
theorem dX6_indexOfName_25 : decode cX6_indexOfName 25 = .ok (.ireturn, 1) := by decide +kernel
theorem dX6_indexOfName_26 : decode cX6_indexOfName 26 = .ok (.iinc 1 1, 3) := by decide +kernel
theorem dX6_indexOfName_29 : decode cX6_indexOfName 29 = .ok (.goto (-27), 3) := by decide +kernel
theorem dX6_indexOfName_32 : decode cX6_indexOfName 32 = .ok (.iconst (-1), 1) := by decide +kernel
theorem dX6_indexOfName_33 : decode cX6_indexOfName 33 = .ok (.ireturn, 1) := by decide +kernel
