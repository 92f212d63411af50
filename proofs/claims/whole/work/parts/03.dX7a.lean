theorem dX7_init_0 : decode cX7_init 0 = .ok (.aload_n 0, 1) := by decide +kernel
theorem dX7_init_1 : decode cX7_init 1 = .ok (.invokespecial 3, 3) := by decide +kernel
theorem dX7_init_4 : decode cX7_init 4 = .ok (.aload_n 0, 1) := by decide +kernel
theorem dX7_init_5 : decode cX7_init 5 = .ok (.bipush 30, 2) := by decide +kernel
theorem dX7_init_7 : decode cX7_init 7 = .ok (.newarray .int, 2) := by decide +kernel
theorem dX7_init_9 : decode cX7_init 9 = .ok (.putfield 9, 3) := by decide +kernel
theorem dX7_init_12 : decode cX7_init 12 = .ok (.aload_n 0, 1) := by decide +kernel
theorem dX7_init_13 : decode cX7_init 13 = .ok (.iconst 5, 1) := by decide +kernel
theorem dX7_init_14 : decode cX7_init 14 = .ok (.newarray .int, 2) := by decide +kernel
theorem dX7_init_16 : decode cX7_init 16 = .ok (.putfield 15, 3) := by decide +kernel
theorem dX7_init_19 : decode cX7_init 19 = .ok (.aload_n 0, 1) := by decide +kernel
theorem dX7_init_20 : decode cX7_init 20 = .ok (.iconst 0, 1) := by decide +kernel
theorem dX7_init_21 : decode cX7_init 21 = .ok (.putfield 18, 3) := by decide +kernel
theorem dX7_init_24 : decode cX7_init 24 = .ok (.return_, 1) := by decide +kernel
theorem dX7_count_0 : decode cX7_count 0 = .ok (.aload_n 0, 1) := by decide +kernel
theorem dX7_count_1 : decode cX7_count 1 = .ok (.aload_n 1, 1) := by decide +kernel
theorem dX7_count_2 : decode cX7_count 2 = .ok (.getfield 22, 3) := by decide +kernel
theorem dX7_count_5 : decode cX7_count 5 = .ok (.putfield 18, 3) := by decide +kernel
theorem dX7_count_8 : decode cX7_count 8 = .ok (.aload_n 0, 1) := by decide +kernel
theorem dX7_count_9 : decode cX7_count 9 = .ok (.getfield 9, 3) := by decide +kernel
theorem dX7_count_12 : decode cX7_count 12 = .ok (.iconst 0, 1) := by decide +kernel
theorem dX7_count_13 : decode cX7_count 13 = .ok (.invokestatic 25, 3) := by decide +kernel
theorem dX7_count_16 : decode cX7_count 16 = .ok (.iconst 1, 1) := by decide +kernel
theorem dX7_count_17 : decode cX7_count 17 = .ok (.istore_n 2, 1) := by decide +kernel
theorem dX7_count_18 : decode cX7_count 18 = .ok (.iconst 0, 1) := by decide +kernel
theorem dX7_count_19 : decode cX7_count 19 = .ok (.istore_n 3, 1) := by decide +kernel
theorem dX7_count_20 : decode cX7_count 20 = .ok (.iload_n 3, 1) := by decide +kernel
theorem dX7_count_21 : decode cX7_count 21 = .ok (.aload_n 1, 1) := by decide +kernel
theorem dX7_count_22 : decode cX7_count 22 = .ok (.getfield 31, 3) := by decide +kernel
theorem dX7_count_25 : decode cX7_count 25 = .ok (.if_icmp .ge 52, 3) := by decide +kernel
theorem dX7_count_28 : decode cX7_count 28 = .ok (.aload_n 0, 1) := by decide +kernel
theorem dX7_count_29 : decode cX7_count 29 = .ok (.getfield 15, 3) := by decide +kernel
theorem dX7_count_32 : decode cX7_count 32 = .ok (.iload_n 3, 1) := by decide +kernel
theorem dX7_count_33 : decode cX7_count 33 = .ok (.aload_n 1, 1) := by decide +kernel
theorem dX7_count_34 : decode cX7_count 34 = .ok (.iload_n 3, 1) := by decide +kernel
theorem dX7_count_35 : decode cX7_count 35 = .ok (.invokestatic 34, 3) := by decide +kernel
theorem dX7_count_38 : decode cX7_count 38 = .ok (.ifCond .eq 22, 3) := by decide +kernel
theorem dX7_count_41 : decode cX7_count 41 = .ok (.aload_n 0, 1) := by decide +kernel
theorem dX7_count_42 : decode cX7_count 42 = .ok (.aload_n 1, 1) := by decide +kernel
theorem dX7_count_43 : decode cX7_count 43 = .ok (.iload_n 3, 1) := by decide +kernel
theorem dX7_count_44 : decode cX7_count 44 = .ok (.aload_n 1, 1) := by decide +kernel
theorem dX7_count_45 : decode cX7_count 45 = .ok (.getfield 38, 3) := by decide +kernel
theorem dX7_count_48 : decode cX7_count 48 = .ok (.iload_n 3, 1) := by decide +kernel
theorem dX7_count_49 : decode cX7_count 49 = .ok (.aaload, 1) := by decide +kernel
theorem dX7_count_50 : decode cX7_count 50 = .ok (.getfield 42, 3) := by decide +kernel
theorem dX7_count_53 : decode cX7_count 53 = .ok (.iconst 0, 1) := by decide +kernel
theorem dX7_count_54 : decode cX7_count 54 = .ok (.invokevirtual 47, 3) := by decide +kernel
theorem dX7_count_57 : decode cX7_count 57 = .ok (.goto 4, 3) := by decide +kernel
theorem dX7_count_60 : decode cX7_count 60 = .ok (.iconst 1, 1) := by decide +kernel
theorem dX7_count_61 : decode cX7_count 61 = .ok (.iastore, 1) := by decide +kernel
theorem dX7_count_62 : decode cX7_count 62 = .ok (.iload_n 2, 1) := by decide +kernel
theorem dX7_count_63 : decode cX7_count 63 = .ok (.aload_n 0, 1) := by decide +kernel
theorem dX7_count_64 : decode cX7_count 64 = .ok (.getfield 15, 3) := by decide +kernel
theorem dX7_count_67 : decode cX7_count 67 = .ok (.iload_n 3, 1) := by decide +kernel
theorem dX7_count_68 : decode cX7_count 68 = .ok (.iaload, 1) := by decide +kernel
theorem dX7_count_69 : decode cX7_count 69 = .ok (.imul, 1) := by decide +kernel
theorem dX7_count_70 : decode cX7_count 70 = .ok (.istore_n 2, 1) := by decide +kernel
theorem dX7_count_71 : decode cX7_count 71 = .ok (.iinc 3 1, 3) := by decide +kernel
theorem dX7_count_74 : decode cX7_count 74 = .ok (.goto (-54), 3) := by decide +kernel
theorem dX7_count_77 : decode cX7_count 77 = .ok (.iconst 0, 1) := by decide +kernel
theorem dX7_count_78 : decode cX7_count 78 = .ok (.istore_n 3, 1) := by decide +kernel
theorem dX7_count_79 : decode cX7_count 79 = .ok (.iload_n 3, 1) := by decide +kernel
theorem dX7_count_80 : decode cX7_count 80 = .ok (.aload_n 1, 1) := by decide +kernel
theorem dX7_count_81 : decode cX7_count 81 = .ok (.getfield 31, 3) := by decide +kernel
theorem dX7_count_84 : decode cX7_count 84 = .ok (.if_icmp .ge 28, 3) := by decide +kernel
theorem dX7_count_87 : decode cX7_count 87 = .ok (.aload_n 0, 1) := by decide +kernel
theorem dX7_count_88 : decode cX7_count 88 = .ok (.iload_n 3, 1) := by decide +kernel
theorem dX7_count_89 : decode cX7_count 89 = .ok (.aload_n 0, 1) := by decide +kernel
theorem dX7_count_90 : decode cX7_count 90 = .ok (.aload_n 1, 1) := by decide +kernel
theorem dX7_count_91 : decode cX7_count 91 = .ok (.aload_n 1, 1) := by decide +kernel
theorem dX7_count_92 : decode cX7_count 92 = .ok (.getfield 38, 3) := by decide +kernel
theorem dX7_count_95 : decode cX7_count 95 = .ok (.iload_n 3, 1) := by decide +kernel
theorem dX7_count_96 : decode cX7_count 96 = .ok (.aaload, 1) := by decide +kernel
theorem dX7_count_97 : decode cX7_count 97 = .ok (.getfield 42, 3) := by decide +kernel
theorem dX7_count_100 : decode cX7_count 100 = .ok (.invokevirtual 51, 3) := by decide +kernel
theorem dX7_count_103 : decode cX7_count 103 = .ok (.invokevirtual 55, 3) := by decide +kernel
theorem dX7_count_106 : decode cX7_count 106 = .ok (.iinc 3 1, 3) := by decide +kernel
theorem dX7_count_109 : decode cX7_count 109 = .ok (.goto (-30), 3) := by decide +kernel
theorem dX7_count_112 : decode cX7_count 112 = .ok (.iload_n 2, 1) := by decide +kernel
theorem dX7_count_113 : decode cX7_count 113 = .ok (.ireturn, 1) := by decide +kernel
theorem dX7_peopleOf_0 : decode cX7_peopleOf 0 = .ok (.iconst 0, 1) := by decide +kernel
theorem dX7_peopleOf_1 : decode cX7_peopleOf 1 = .ok (.istore_n 2, 1) := by decide +kernel
theorem dX7_peopleOf_2 : decode cX7_peopleOf 2 = .ok (.iconst 0, 1) := by decide +kernel
theorem dX7_peopleOf_3 : decode cX7_peopleOf 3 = .ok (.istore_n 3, 1) := by decide +kernel
theorem dX7_peopleOf_4 : decode cX7_peopleOf 4 = .ok (.iload_n 3, 1) := by decide +kernel
theorem dX7_peopleOf_5 : decode cX7_peopleOf 5 = .ok (.aload_n 0, 1) := by decide +kernel
theorem dX7_peopleOf_6 : decode cX7_peopleOf 6 = .ok (.getfield 18, 3) := by decide +kernel
theorem dX7_peopleOf_9 : decode cX7_peopleOf 9 = .ok (.if_icmp .ge 29, 3) := by decide +kernel
theorem dX7_peopleOf_12 : decode cX7_peopleOf 12 = .ok (.aload_n 0, 1) := by decide +kernel
theorem dX7_peopleOf_13 : decode cX7_peopleOf 13 = .ok (.getfield 9, 3) := by decide +kernel
theorem dX7_peopleOf_16 : decode cX7_peopleOf 16 = .ok (.iload_n 1, 1) := by decide +kernel
theorem dX7_peopleOf_17 : decode cX7_peopleOf 17 = .ok (.bipush 6, 2) := by decide +kernel
theorem dX7_peopleOf_19 : decode cX7_peopleOf 19 = .ok (.imul, 1) := by decide +kernel
theorem dX7_peopleOf_20 : decode cX7_peopleOf 20 = .ok (.iload_n 3, 1) := by decide +kernel
theorem dX7_peopleOf_21 : decode cX7_peopleOf 21 = .ok (.iadd, 1) := by decide +kernel
theorem dX7_peopleOf_22 : decode cX7_peopleOf 22 = .ok (.iaload, 1) := by decide +kernel
theorem dX7_peopleOf_23 : decode cX7_peopleOf 23 = .ok (.ifCond .le 9, 3) := by decide +kernel
theorem dX7_peopleOf_26 : decode cX7_peopleOf 26 = .ok (.iload_n 2, 1) := by decide +kernel
theorem dX7_peopleOf_27 : decode cX7_peopleOf 27 = .ok (.iconst 1, 1) := by decide +kernel
theorem dX7_peopleOf_28 : decode cX7_peopleOf 28 = .ok (.iload_n 3, 1) := by decide +kernel
theorem dX7_peopleOf_29 : decode cX7_peopleOf 29 = .ok (.ishl, 1) := by decide +kernel
theorem dX7_peopleOf_30 : decode cX7_peopleOf 30 = .ok (.ior, 1) := by decide +kernel
theorem dX7_peopleOf_31 : decode cX7_peopleOf 31 = .ok (.istore_n 2, 1) := by decide +kernel
theorem dX7_peopleOf_32 : decode cX7_peopleOf 32 = .ok (.iinc 3 1, 3) := by decide +kernel
theorem dX7_peopleOf_35 : decode cX7_peopleOf 35 = .ok (.goto (-31), 3) := by decide +kernel
theorem dX7_peopleOf_38 : decode cX7_peopleOf 38 = .ok (.iload_n 2, 1) := by decide +kernel
theorem dX7_peopleOf_39 : decode cX7_peopleOf 39 = .ok (.ireturn, 1) := by decide +kernel
theorem dX7_onlyOneOf_0 : decode cX7_onlyOneOf 0 = .ok (.aload_n 0, 1) := by decide +kernel
theorem dX7_onlyOneOf_1 : decode cX7_onlyOneOf 1 = .ok (.iload_n 1, 1) := by decide +kernel
theorem dX7_onlyOneOf_2 : decode cX7_onlyOneOf 2 = .ok (.invokevirtual 59, 3) := by decide +kernel
theorem dX7_onlyOneOf_5 : decode cX7_onlyOneOf 5 = .ok (.istore_n 2, 1) := by decide +kernel
theorem dX7_onlyOneOf_6 : decode cX7_onlyOneOf 6 = .ok (.iconst 0, 1) := by decide +kernel
theorem dX7_onlyOneOf_7 : decode cX7_onlyOneOf 7 = .ok (.istore_n 3, 1) := by decide +kernel
theorem dX7_onlyOneOf_8 : decode cX7_onlyOneOf 8 = .ok (.iload_n 3, 1) := by decide +kernel
theorem dX7_onlyOneOf_9 : decode cX7_onlyOneOf 9 = .ok (.aload_n 0, 1) := by decide +kernel
theorem dX7_onlyOneOf_10 : decode cX7_onlyOneOf 10 = .ok (.getfield 18, 3) := by decide +kernel
theorem dX7_onlyOneOf_13 : decode cX7_onlyOneOf 13 = .ok (.if_icmp .ge 18, 3) := by decide +kernel
theorem dX7_onlyOneOf_16 : decode cX7_onlyOneOf 16 = .ok (.iload_n 2, 1) := by decide +kernel
theorem dX7_onlyOneOf_17 : decode cX7_onlyOneOf 17 = .ok (.iconst 1, 1) := by decide +kernel
theorem dX7_onlyOneOf_18 : decode cX7_onlyOneOf 18 = .ok (.iload_n 3, 1) := by decide +kernel
theorem dX7_onlyOneOf_19 : decode cX7_onlyOneOf 19 = .ok (.ishl, 1) := by decide +kernel
theorem dX7_onlyOneOf_20 : decode cX7_onlyOneOf 20 = .ok (.if_icmp .ne 5, 3) := by decide +kernel
theorem dX7_onlyOneOf_23 : decode cX7_onlyOneOf 23 = .ok (.iload_n 3, 1) := by decide +kernel
theorem dX7_onlyOneOf_24 : decode cX7_onlyOneOf 24 = .ok (.ireturn, 1) := by decide +kernel
theorem dX7_onlyOneOf_25 : decode cX7_onlyOneOf 25 = .ok (.iinc 3 1, 3) := by decide +kernel
theorem dX7_onlyOneOf_28 : decode cX7_onlyOneOf 28 = .ok (.goto (-20), 3) := by decide +kernel
theorem dX7_onlyOneOf_31 : decode cX7_onlyOneOf 31 = .ok (.bipush (-2), 2) := by decide +kernel
theorem dX7_onlyOneOf_33 : decode cX7_onlyOneOf 33 = .ok (.ireturn, 1) := by decide +kernel
theorem dX7_mostLeft_0 : decode cX7_mostLeft 0 = .ok (.iconst 0, 1) := by decide +kernel
theorem dX7_mostLeft_1 : decode cX7_mostLeft 1 = .ok (.istore_n 2, 1) := by decide +kernel
theorem dX7_mostLeft_2 : decode cX7_mostLeft 2 = .ok (.iconst 0, 1) := by decide +kernel
theorem dX7_mostLeft_3 : decode cX7_mostLeft 3 = .ok (.istore_n 3, 1) := by decide +kernel
theorem dX7_mostLeft_4 : decode cX7_mostLeft 4 = .ok (.iload_n 3, 1) := by decide +kernel
theorem dX7_mostLeft_5 : decode cX7_mostLeft 5 = .ok (.aload_n 0, 1) := by decide +kernel
theorem dX7_mostLeft_6 : decode cX7_mostLeft 6 = .ok (.getfield 18, 3) := by decide +kernel
theorem dX7_mostLeft_9 : decode cX7_mostLeft 9 = .ok (.if_icmp .ge 25, 3) := by decide +kernel
theorem dX7_mostLeft_12 : decode cX7_mostLeft 12 = .ok (.iload_n 2, 1) := by decide +kernel
theorem dX7_mostLeft_13 : decode cX7_mostLeft 13 = .ok (.aload_n 0, 1) := by decide +kernel
theorem dX7_mostLeft_14 : decode cX7_mostLeft 14 = .ok (.getfield 9, 3) := by decide +kernel
theorem dX7_mostLeft_17 : decode cX7_mostLeft 17 = .ok (.iload_n 1, 1) := by decide +kernel
theorem dX7_mostLeft_18 : decode cX7_mostLeft 18 = .ok (.bipush 6, 2) := by decide +kernel
theorem dX7_mostLeft_20 : decode cX7_mostLeft 20 = .ok (.imul, 1) := by decide +kernel
theorem dX7_mostLeft_21 : decode cX7_mostLeft 21 = .ok (.iload_n 3, 1) := by decide +kernel
theorem dX7_mostLeft_22 : decode cX7_mostLeft 22 = .ok (.iadd, 1) := by decide +kernel
theorem dX7_mostLeft_23 : decode cX7_mostLeft 23 = .ok (.iaload, 1) := by decide +kernel
theorem dX7_mostLeft_24 : decode cX7_mostLeft 24 = .ok (.invokestatic 63, 3) := by decide +kernel
theorem dX7_mostLeft_27 : decode cX7_mostLeft 27 = .ok (.istore_n 2, 1) := by decide +kernel
theorem dX7_mostLeft_28 : decode cX7_mostLeft 28 = .ok (.iinc 3 1, 3) := by decide +kernel
theorem dX7_mostLeft_31 : decode cX7_mostLeft 31 = .ok (.goto (-27), 3) := by decide +kernel
theorem dX7_mostLeft_34 : decode cX7_mostLeft 34 = .ok (.iload_n 2, 1) := by decide +kernel
theorem dX7_mostLeft_35 : decode cX7_mostLeft 35 = .ok (.ireturn, 1) := by decide +kernel
theorem dX7_isFirst_0 : decode cX7_isFirst 0 = .ok (.iconst 0, 1) := by decide +kernel
theorem dX7_isFirst_1 : decode cX7_isFirst 1 = .ok (.istore_n 2, 1) := by decide +kernel
theorem dX7_isFirst_2 : decode cX7_isFirst 2 = .ok (.iload_n 2, 1) := by decide +kernel
theorem dX7_isFirst_3 : decode cX7_isFirst 3 = .ok (.iload_n 1, 1) := by decide +kernel
theorem dX7_isFirst_4 : decode cX7_isFirst 4 = .ok (.if_icmp .ge 32, 3) := by decide +kernel
theorem dX7_isFirst_7 : decode cX7_isFirst 7 = .ok (.aload_n 0, 1) := by decide +kernel
theorem dX7_isFirst_8 : decode cX7_isFirst 8 = .ok (.getfield 38, 3) := by decide +kernel
theorem dX7_isFirst_11 : decode cX7_isFirst 11 = .ok (.iload_n 2, 1) := by decide +kernel
theorem dX7_isFirst_12 : decode cX7_isFirst 12 = .ok (.aaload, 1) := by decide +kernel
theorem dX7_isFirst_13 : decode cX7_isFirst 13 = .ok (.getfield 42, 3) := by decide +kernel
theorem dX7_isFirst_16 : decode cX7_isFirst 16 = .ok (.aload_n 0, 1) := by decide +kernel
theorem dX7_isFirst_17 : decode cX7_isFirst 17 = .ok (.getfield 38, 3) := by decide +kernel
theorem dX7_isFirst_20 : decode cX7_isFirst 20 = .ok (.iload_n 1, 1) := by decide +kernel
theorem dX7_isFirst_21 : decode cX7_isFirst 21 = .ok (.aaload, 1) := by decide +kernel
theorem dX7_isFirst_22 : decode cX7_isFirst 22 = .ok (.getfield 42, 3) := by decide +kernel
theorem dX7_isFirst_25 : decode cX7_isFirst 25 = .ok (.if_icmp .ne 5, 3) := by decide +kernel
theorem dX7_isFirst_28 : decode cX7_isFirst 28 = .ok (.iconst 0, 1) := by decide +kernel
theorem dX7_isFirst_29 : decode cX7_isFirst 29 = .ok (.ireturn, 1) := by decide +kernel
theorem dX7_isFirst_30 : decode cX7_isFirst 30 = .ok (.iinc 2 1, 3) := by decide +kernel
theorem dX7_isFirst_33 : decode cX7_isFirst 33 = .ok (.goto (-31), 3) := by decide +kernel
theorem dX7_isFirst_36 : decode cX7_isFirst 36 = .ok (.iconst 1, 1) := by decide +kernel
theorem dX7_isFirst_37 : decode cX7_isFirst 37 = .ok (.ireturn, 1) := by decide +kernel
theorem dX7_rowsOfOthers_0 : decode cX7_rowsOfOthers 0 = .ok (.iconst 1, 1) := by decide +kernel
theorem dX7_rowsOfOthers_1 : decode cX7_rowsOfOthers 1 = .ok (.istore_n 3, 1) := by decide +kernel
theorem dX7_rowsOfOthers_2 : decode cX7_rowsOfOthers 2 = .ok (.iconst 0, 1) := by decide +kernel
theorem dX7_rowsOfOthers_3 : decode cX7_rowsOfOthers 3 = .ok (.istore 4, 2) := by decide +kernel
theorem dX7_rowsOfOthers_5 : decode cX7_rowsOfOthers 5 = .ok (.iload 4, 2) := by decide +kernel
theorem dX7_rowsOfOthers_7 : decode cX7_rowsOfOthers 7 = .ok (.aload_n 1, 1) := by decide +kernel
theorem dX7_rowsOfOthers_8 : decode cX7_rowsOfOthers 8 = .ok (.getfield 31, 3) := by decide +kernel
theorem dX7_rowsOfOthers_11 : decode cX7_rowsOfOthers 11 = .ok (.if_icmp .ge 33, 3) := by decide +kernel
theorem dX7_rowsOfOthers_14 : decode cX7_rowsOfOthers 14 = .ok (.aload_n 1, 1) := by decide +kernel
theorem dX7_rowsOfOthers_15 : decode cX7_rowsOfOthers 15 = .ok (.getfield 38, 3) := by decide +kernel
theorem dX7_rowsOfOthers_18 : decode cX7_rowsOfOthers 18 = .ok (.iload 4, 2) := by decide +kernel
theorem dX7_rowsOfOthers_20 : decode cX7_rowsOfOthers 20 = .ok (.aaload, 1) := by decide +kernel
theorem dX7_rowsOfOthers_21 : decode cX7_rowsOfOthers 21 = .ok (.getfield 42, 3) := by decide +kernel
theorem dX7_rowsOfOthers_24 : decode cX7_rowsOfOthers 24 = .ok (.iload_n 2, 1) := by decide +kernel
theorem dX7_rowsOfOthers_25 : decode cX7_rowsOfOthers 25 = .ok (.if_icmp .eq 13, 3) := by decide +kernel
theorem dX7_rowsOfOthers_28 : decode cX7_rowsOfOthers 28 = .ok (.iload_n 3, 1) := by decide +kernel
theorem dX7_rowsOfOthers_29 : decode cX7_rowsOfOthers 29 = .ok (.aload_n 0, 1) := by decide +kernel
theorem dX7_rowsOfOthers_30 : decode cX7_rowsOfOthers 30 = .ok (.getfield 15, 3) := by decide +kernel
theorem dX7_rowsOfOthers_33 : decode cX7_rowsOfOthers 33 = .ok (.iload 4, 2) := by decide +kernel
theorem dX7_rowsOfOthers_35 : decode cX7_rowsOfOthers 35 = .ok (.iaload, 1) := by decide +kernel
theorem dX7_rowsOfOthers_36 : decode cX7_rowsOfOthers 36 = .ok (.imul, 1) := by decide +kernel
theorem dX7_rowsOfOthers_37 : decode cX7_rowsOfOthers 37 = .ok (.istore_n 3, 1) := by decide +kernel
theorem dX7_rowsOfOthers_38 : decode cX7_rowsOfOthers 38 = .ok (.iinc 4 1, 3) := by decide +kernel
theorem dX7_rowsOfOthers_41 : decode cX7_rowsOfOthers 41 = .ok (.goto (-36), 3) := by decide +kernel
theorem dX7_rowsOfOthers_44 : decode cX7_rowsOfOthers 44 = .ok (.iload_n 3, 1) := by decide +kernel
theorem dX7_rowsOfOthers_45 : decode cX7_rowsOfOthers 45 = .ok (.ireturn, 1) := by decide +kernel
theorem dX7_spread_0 : decode cX7_spread 0 = .ok (.iconst 0, 1) := by decide +kernel
theorem dX7_spread_1 : decode cX7_spread 1 = .ok (.istore_n 3, 1) := by decide +kernel
theorem dX7_spread_2 : decode cX7_spread 2 = .ok (.iload_n 3, 1) := by decide +kernel
theorem dX7_spread_3 : decode cX7_spread 3 = .ok (.aload_n 0, 1) := by decide +kernel
theorem dX7_spread_4 : decode cX7_spread 4 = .ok (.getfield 18, 3) := by decide +kernel
theorem dX7_spread_7 : decode cX7_spread 7 = .ok (.if_icmp .ge 24, 3) := by decide +kernel
theorem dX7_spread_10 : decode cX7_spread 10 = .ok (.aload_n 0, 1) := by decide +kernel
theorem dX7_spread_11 : decode cX7_spread 11 = .ok (.getfield 9, 3) := by decide +kernel
theorem dX7_spread_14 : decode cX7_spread 14 = .ok (.iload_n 1, 1) := by decide +kernel
theorem dX7_spread_15 : decode cX7_spread 15 = .ok (.bipush 6, 2) := by decide +kernel
theorem dX7_spread_17 : decode cX7_spread 17 = .ok (.imul, 1) := by decide +kernel
theorem dX7_spread_18 : decode cX7_spread 18 = .ok (.iload_n 3, 1) := by decide +kernel
theorem dX7_spread_19 : decode cX7_spread 19 = .ok (.iadd, 1) := by decide +kernel
theorem dX7_spread_20 : decode cX7_spread 20 = .ok (.dup2, 1) := by decide +kernel
theorem dX7_spread_21 : decode cX7_spread 21 = .ok (.iaload, 1) := by decide +kernel
theorem dX7_spread_22 : decode cX7_spread 22 = .ok (.iload_n 2, 1) := by decide +kernel
theorem dX7_spread_23 : decode cX7_spread 23 = .ok (.imul, 1) := by decide +kernel
theorem dX7_spread_24 : decode cX7_spread 24 = .ok (.iastore, 1) := by decide +kernel
theorem dX7_spread_25 : decode cX7_spread 25 = .ok (.iinc 3 1, 3) := by decide +kernel
theorem dX7_spread_28 : decode cX7_spread 28 = .ok (.goto (-26), 3) := by decide +kernel
theorem dX7_spread_31 : decode cX7_spread 31 = .ok (.return_, 1) := by decide +kernel
theorem dX7_countNight_0 : decode cX7_countNight 0 = .ok (.iload_n 2, 1) := by decide +kernel
theorem dX7_countNight_1 : decode cX7_countNight 1 = .ok (.istore 5, 2) := by decide +kernel
theorem dX7_countNight_3 : decode cX7_countNight 3 = .ok (.iload 5, 2) := by decide +kernel
theorem dX7_countNight_5 : decode cX7_countNight 5 = .ok (.aload_n 1, 1) := by decide +kernel
theorem dX7_countNight_6 : decode cX7_countNight 6 = .ok (.getfield 31, 3) := by decide +kernel
theorem dX7_countNight_9 : decode cX7_countNight 9 = .ok (.if_icmp .ge 23, 3) := by decide +kernel
theorem dX7_countNight_12 : decode cX7_countNight 12 = .ok (.aload_n 1, 1) := by decide +kernel
theorem dX7_countNight_13 : decode cX7_countNight 13 = .ok (.getfield 38, 3) := by decide +kernel
theorem dX7_countNight_16 : decode cX7_countNight 16 = .ok (.iload 5, 2) := by decide +kernel
theorem dX7_countNight_18 : decode cX7_countNight 18 = .ok (.aaload, 1) := by decide +kernel
theorem dX7_countNight_19 : decode cX7_countNight 19 = .ok (.getfield 42, 3) := by decide +kernel
theorem dX7_countNight_22 : decode cX7_countNight 22 = .ok (.iload_n 3, 1) := by decide +kernel
theorem dX7_countNight_23 : decode cX7_countNight 23 = .ok (.if_icmp .eq 9, 3) := by decide +kernel
theorem dX7_countNight_26 : decode cX7_countNight 26 = .ok (.iinc 5 1, 3) := by decide +kernel
theorem dX7_countNight_29 : decode cX7_countNight 29 = .ok (.goto (-26), 3) := by decide +kernel
theorem dX7_countNight_32 : decode cX7_countNight 32 = .ok (.iload 5, 2) := by decide +kernel
theorem dX7_countNight_34 : decode cX7_countNight 34 = .ok (.aload_n 1, 1) := by decide +kernel
theorem dX7_countNight_35 : decode cX7_countNight 35 = .ok (.getfield 31, 3) := by decide +kernel
theorem dX7_countNight_38 : decode cX7_countNight 38 = .ok (.if_icmp .lt 5, 3) := by decide +kernel
theorem dX7_countNight_41 : decode cX7_countNight 41 = .ok (.iconst 1, 1) := by decide +kernel
theorem dX7_countNight_42 : decode cX7_countNight 42 = .ok (.ireturn, 1) := by decide +kernel
theorem dX7_countNight_43 : decode cX7_countNight 43 = .ok (.iconst 0, 1) := by decide +kernel
theorem dX7_countNight_44 : decode cX7_countNight 44 = .ok (.istore 6, 2) := by decide +kernel
theorem dX7_countNight_46 : decode cX7_countNight 46 = .ok (.iconst 0, 1) := by decide +kernel
theorem dX7_countNight_47 : decode cX7_countNight 47 = .ok (.istore 7, 2) := by decide +kernel
theorem dX7_countNight_49 : decode cX7_countNight 49 = .ok (.iload 7, 2) := by decide +kernel
theorem dX7_countNight_51 : decode cX7_countNight 51 = .ok (.aload_n 0, 1) := by decide +kernel
theorem dX7_countNight_52 : decode cX7_countNight 52 = .ok (.getfield 18, 3) := by decide +kernel
theorem dX7_countNight_55 : decode cX7_countNight 55 = .ok (.if_icmp .ge 83, 3) := by decide +kernel
theorem dX7_countNight_58 : decode cX7_countNight 58 = .ok (.iload 4, 2) := by decide +kernel
theorem dX7_countNight_60 : decode cX7_countNight 60 = .ok (.iload 7, 2) := by decide +kernel
theorem dX7_countNight_62 : decode cX7_countNight 62 = .ok (.ishr, 1) := by decide +kernel
theorem dX7_countNight_63 : decode cX7_countNight 63 = .ok (.iconst 1, 1) := by decide +kernel
theorem dX7_countNight_64 : decode cX7_countNight 64 = .ok (.iand, 1) := by decide +kernel
theorem dX7_countNight_65 : decode cX7_countNight 65 = .ok (.ifCond .ne 67, 3) := by decide +kernel
theorem dX7_countNight_68 : decode cX7_countNight 68 = .ok (.aload_n 1, 1) := by decide +kernel
theorem dX7_countNight_69 : decode cX7_countNight 69 = .ok (.getfield 69, 3) := by decide +kernel
theorem dX7_countNight_72 : decode cX7_countNight 72 = .ok (.iload 7, 2) := by decide +kernel
theorem dX7_countNight_74 : decode cX7_countNight 74 = .ok (.aaload, 1) := by decide +kernel
theorem dX7_countNight_75 : decode cX7_countNight 75 = .ok (.aload_n 1, 1) := by decide +kernel
theorem dX7_countNight_76 : decode cX7_countNight 76 = .ok (.getfield 38, 3) := by decide +kernel
theorem dX7_countNight_79 : decode cX7_countNight 79 = .ok (.iload 5, 2) := by decide +kernel
theorem dX7_countNight_81 : decode cX7_countNight 81 = .ok (.aaload, 1) := by decide +kernel
theorem dX7_countNight_82 : decode cX7_countNight 82 = .ok (.invokestatic 73, 3) := by decide +kernel
theorem dX7_countNight_85 : decode cX7_countNight 85 = .ok (.ifCond .eq 47, 3) := by decide +kernel
theorem dX7_countNight_88 : decode cX7_countNight 88 = .ok (.aload_n 0, 1) := by decide +kernel
theorem dX7_countNight_89 : decode cX7_countNight 89 = .ok (.aload_n 1, 1) := by decide +kernel
theorem dX7_countNight_90 : decode cX7_countNight 90 = .ok (.iload 5, 2) := by decide +kernel
theorem dX7_countNight_92 : decode cX7_countNight 92 = .ok (.iconst 1, 1) := by decide +kernel
theorem dX7_countNight_93 : decode cX7_countNight 93 = .ok (.iadd, 1) := by decide +kernel
theorem dX7_countNight_94 : decode cX7_countNight 94 = .ok (.iload_n 3, 1) := by decide +kernel
theorem dX7_countNight_95 : decode cX7_countNight 95 = .ok (.iload 4, 2) := by decide +kernel
theorem dX7_countNight_97 : decode cX7_countNight 97 = .ok (.iconst 1, 1) := by decide +kernel
theorem dX7_countNight_98 : decode cX7_countNight 98 = .ok (.iload 7, 2) := by decide +kernel
theorem dX7_countNight_100 : decode cX7_countNight 100 = .ok (.ishl, 1) := by decide +kernel
theorem dX7_countNight_101 : decode cX7_countNight 101 = .ok (.ior, 1) := by decide +kernel
theorem dX7_countNight_102 : decode cX7_countNight 102 = .ok (.invokevirtual 47, 3) := by decide +kernel
theorem dX7_countNight_105 : decode cX7_countNight 105 = .ok (.istore 8, 2) := by decide +kernel
theorem dX7_countNight_107 : decode cX7_countNight 107 = .ok (.aload_n 0, 1) := by decide +kernel
theorem dX7_countNight_108 : decode cX7_countNight 108 = .ok (.getfield 9, 3) := by decide +kernel
theorem dX7_countNight_111 : decode cX7_countNight 111 = .ok (.iload 5, 2) := by decide +kernel
theorem dX7_countNight_113 : decode cX7_countNight 113 = .ok (.bipush 6, 2) := by decide +kernel
theorem dX7_countNight_115 : decode cX7_countNight 115 = .ok (.imul, 1) := by decide +kernel
theorem dX7_countNight_116 : decode cX7_countNight 116 = .ok (.iload 7, 2) := by decide +kernel
theorem dX7_countNight_118 : decode cX7_countNight 118 = .ok (.iadd, 1) := by decide +kernel
theorem dX7_countNight_119 : decode cX7_countNight 119 = .ok (.dup2, 1) := by decide +kernel
theorem dX7_countNight_120 : decode cX7_countNight 120 = .ok (.iaload, 1) := by decide +kernel
theorem dX7_countNight_121 : decode cX7_countNight 121 = .ok (.iload 8, 2) := by decide +kernel
theorem dX7_countNight_123 : decode cX7_countNight 123 = .ok (.iadd, 1) := by decide +kernel
theorem dX7_countNight_124 : decode cX7_countNight 124 = .ok (.iastore, 1) := by decide +kernel
theorem dX7_countNight_125 : decode cX7_countNight 125 = .ok (.iload 6, 2) := by decide +kernel
theorem dX7_countNight_127 : decode cX7_countNight 127 = .ok (.iload 8, 2) := by decide +kernel
theorem dX7_countNight_129 : decode cX7_countNight 129 = .ok (.iadd, 1) := by decide +kernel
theorem dX7_countNight_130 : decode cX7_countNight 130 = .ok (.istore 6, 2) := by decide +kernel
theorem dX7_countNight_132 : decode cX7_countNight 132 = .ok (.iinc 7 1, 3) := by decide +kernel
theorem dX7_countNight_135 : decode cX7_countNight 135 = .ok (.goto (-86), 3) := by decide +kernel
theorem dX7_countNight_138 : decode cX7_countNight 138 = .ok (.iload 6, 2) := by decide +kernel
theorem dX7_countNight_140 : decode cX7_countNight 140 = .ok (.ireturn, 1) := by decide +kernel
theorem dX7_suits_0 : decode cX7_suits 0 = .ok (.aload_n 0, 1) := by decide +kernel
theorem dX7_suits_1 : decode cX7_suits 1 = .ok (.getfield 77, 3) := by decide +kernel
theorem dX7_suits_4 : decode cX7_suits 4 = .ok (.iconst 2, 1) := by decide +kernel
theorem dX7_suits_5 : decode cX7_suits 5 = .ok (.if_icmp .eq 29, 3) := by decide +kernel
theorem dX7_suits_8 : decode cX7_suits 8 = .ok (.aload_n 0, 1) := by decide +kernel
theorem dX7_suits_9 : decode cX7_suits 9 = .ok (.invokevirtual 82, 3) := by decide +kernel
theorem dX7_suits_12 : decode cX7_suits 12 = .ok (.aload_n 1, 1) := by decide +kernel
theorem dX7_suits_13 : decode cX7_suits 13 = .ok (.getfield 86, 3) := by decide +kernel
theorem dX7_suits_16 : decode cX7_suits 16 = .ok (.if_icmp .ne 18, 3) := by decide +kernel
theorem dX7_suits_19 : decode cX7_suits 19 = .ok (.aload_n 0, 1) := by decide +kernel
theorem dX7_suits_20 : decode cX7_suits 20 = .ok (.getfield 88, 3) := by decide +kernel
theorem dX7_suits_23 : decode cX7_suits 23 = .ok (.aload_n 1, 1) := by decide +kernel
theorem dX7_suits_24 : decode cX7_suits 24 = .ok (.getfield 91, 3) := by decide +kernel
theorem dX7_suits_27 : decode cX7_suits 27 = .ok (.if_icmp .eq 7, 3) := by decide +kernel
theorem dX7_suits_30 : decode cX7_suits 30 = .ok (.iconst 1, 1) := by decide +kernel
theorem dX7_suits_31 : decode cX7_suits 31 = .ok (.goto 4, 3) := by decide +kernel
theorem dX7_suits_34 : decode cX7_suits 34 = .ok (.iconst 0, 1) := by decide +kernel
theorem dX7_suits_35 : decode cX7_suits 35 = .ok (.ireturn, 1) := by decide +kernel
