theorem dX0_init_0 : decode cX0_init 0 = .ok (.aload_n 0, 1) := by decide +kernel
theorem dX0_init_1 : decode cX0_init 1 = .ok (.invokespecial 3, 3) := by decide +kernel
theorem dX0_init_4 : decode cX0_init 4 = .ok (.aload_n 0, 1) := by decide +kernel
theorem dX0_init_5 : decode cX0_init 5 = .ok (.iconst 5, 1) := by decide +kernel
theorem dX0_init_6 : decode cX0_init 6 = .ok (.newarray .int, 2) := by decide +kernel
theorem dX0_init_8 : decode cX0_init 8 = .ok (.putfield 9, 3) := by decide +kernel
theorem dX0_init_11 : decode cX0_init 11 = .ok (.aload_n 0, 1) := by decide +kernel
theorem dX0_init_12 : decode cX0_init 12 = .ok (.iconst 5, 1) := by decide +kernel
theorem dX0_init_13 : decode cX0_init 13 = .ok (.newarray .int, 2) := by decide +kernel
theorem dX0_init_15 : decode cX0_init 15 = .ok (.putfield 15, 3) := by decide +kernel
theorem dX0_init_18 : decode cX0_init 18 = .ok (.aload_n 0, 1) := by decide +kernel
theorem dX0_init_19 : decode cX0_init 19 = .ok (.bipush 6, 2) := by decide +kernel
theorem dX0_init_21 : decode cX0_init 21 = .ok (.newarray .int, 2) := by decide +kernel
theorem dX0_init_23 : decode cX0_init 23 = .ok (.putfield 18, 3) := by decide +kernel
theorem dX0_init_26 : decode cX0_init 26 = .ok (.aload_n 0, 1) := by decide +kernel
theorem dX0_init_27 : decode cX0_init 27 = .ok (.sipush 192, 3) := by decide +kernel
theorem dX0_init_30 : decode cX0_init 30 = .ok (.newarray .int, 2) := by decide +kernel
theorem dX0_init_32 : decode cX0_init 32 = .ok (.putfield 21, 3) := by decide +kernel
theorem dX0_init_35 : decode cX0_init 35 = .ok (.aload_n 0, 1) := by decide +kernel
theorem dX0_init_36 : decode cX0_init 36 = .ok (.iconst 0, 1) := by decide +kernel
theorem dX0_init_37 : decode cX0_init 37 = .ok (.putfield 24, 3) := by decide +kernel
theorem dX0_init_40 : decode cX0_init 40 = .ok (.aload_n 0, 1) := by decide +kernel
theorem dX0_init_41 : decode cX0_init 41 = .ok (.iconst 0, 1) := by decide +kernel
theorem dX0_init_42 : decode cX0_init 42 = .ok (.putfield 28, 3) := by decide +kernel
theorem dX0_init_45 : decode cX0_init 45 = .ok (.return_, 1) := by decide +kernel
theorem dX0_soonestOf_0 : decode cX0_soonestOf 0 = .ok (.aload_n 0, 1) := by decide +kernel
theorem dX0_soonestOf_1 : decode cX0_soonestOf 1 = .ok (.aload_n 1, 1) := by decide +kernel
theorem dX0_soonestOf_2 : decode cX0_soonestOf 2 = .ok (.aload_n 2, 1) := by decide +kernel
theorem dX0_soonestOf_3 : decode cX0_soonestOf 3 = .ok (.invokevirtual 31, 3) := by decide +kernel
theorem dX0_soonestOf_6 : decode cX0_soonestOf 6 = .ok (.aload_n 0, 1) := by decide +kernel
theorem dX0_soonestOf_7 : decode cX0_soonestOf 7 = .ok (.iconst 0, 1) := by decide +kernel
theorem dX0_soonestOf_8 : decode cX0_soonestOf 8 = .ok (.putfield 28, 3) := by decide +kernel
theorem dX0_soonestOf_11 : decode cX0_soonestOf 11 = .ok (.iconst 0, 1) := by decide +kernel
theorem dX0_soonestOf_12 : decode cX0_soonestOf 12 = .ok (.istore_n 3, 1) := by decide +kernel
theorem dX0_soonestOf_13 : decode cX0_soonestOf 13 = .ok (.iload_n 3, 1) := by decide +kernel
theorem dX0_soonestOf_14 : decode cX0_soonestOf 14 = .ok (.aload_n 1, 1) := by decide +kernel
theorem dX0_soonestOf_15 : decode cX0_soonestOf 15 = .ok (.getfield 35, 3) := by decide +kernel
theorem dX0_soonestOf_18 : decode cX0_soonestOf 18 = .ok (.if_icmp .ge 38, 3) := by decide +kernel
theorem dX0_soonestOf_21 : decode cX0_soonestOf 21 = .ok (.aload_n 1, 1) := by decide +kernel
theorem dX0_soonestOf_22 : decode cX0_soonestOf 22 = .ok (.aload_n 2, 1) := by decide +kernel
theorem dX0_soonestOf_23 : decode cX0_soonestOf 23 = .ok (.iload_n 3, 1) := by decide +kernel
theorem dX0_soonestOf_24 : decode cX0_soonestOf 24 = .ok (.invokestatic 40, 3) := by decide +kernel
theorem dX0_soonestOf_27 : decode cX0_soonestOf 27 = .ok (.ifCond .eq 23, 3) := by decide +kernel
theorem dX0_soonestOf_30 : decode cX0_soonestOf 30 = .ok (.aload_n 0, 1) := by decide +kernel
theorem dX0_soonestOf_31 : decode cX0_soonestOf 31 = .ok (.aload_n 0, 1) := by decide +kernel
theorem dX0_soonestOf_32 : decode cX0_soonestOf 32 = .ok (.getfield 28, 3) := by decide +kernel
theorem dX0_soonestOf_35 : decode cX0_soonestOf 35 = .ok (.aload_n 0, 1) := by decide +kernel
theorem dX0_soonestOf_36 : decode cX0_soonestOf 36 = .ok (.aload_n 1, 1) := by decide +kernel
theorem dX0_soonestOf_37 : decode cX0_soonestOf 37 = .ok (.getfield 44, 3) := by decide +kernel
theorem dX0_soonestOf_40 : decode cX0_soonestOf 40 = .ok (.iload_n 3, 1) := by decide +kernel
theorem dX0_soonestOf_41 : decode cX0_soonestOf 41 = .ok (.invokevirtual 47, 3) := by decide +kernel
theorem dX0_soonestOf_44 : decode cX0_soonestOf 44 = .ok (.invokestatic 51, 3) := by decide +kernel
theorem dX0_soonestOf_47 : decode cX0_soonestOf 47 = .ok (.putfield 28, 3) := by decide +kernel
theorem dX0_soonestOf_50 : decode cX0_soonestOf 50 = .ok (.iinc 3 1, 3) := by decide +kernel
theorem dX0_soonestOf_53 : decode cX0_soonestOf 53 = .ok (.goto (-40), 3) := by decide +kernel
theorem dX0_soonestOf_56 : decode cX0_soonestOf 56 = .ok (.aload_n 0, 1) := by decide +kernel
theorem dX0_soonestOf_57 : decode cX0_soonestOf 57 = .ok (.ldc 56, 2) := by decide +kernel
theorem dX0_soonestOf_59 : decode cX0_soonestOf 59 = .ok (.putfield 24, 3) := by decide +kernel
theorem dX0_soonestOf_62 : decode cX0_soonestOf 62 = .ok (.aload_n 0, 1) := by decide +kernel
theorem dX0_soonestOf_63 : decode cX0_soonestOf 63 = .ok (.aload_n 1, 1) := by decide +kernel
theorem dX0_soonestOf_64 : decode cX0_soonestOf 64 = .ok (.aload_n 2, 1) := by decide +kernel
theorem dX0_soonestOf_65 : decode cX0_soonestOf 65 = .ok (.iconst 0, 1) := by decide +kernel
theorem dX0_soonestOf_66 : decode cX0_soonestOf 66 = .ok (.iconst 0, 1) := by decide +kernel
theorem dX0_soonestOf_67 : decode cX0_soonestOf 67 = .ok (.invokevirtual 57, 3) := by decide +kernel
theorem dX0_soonestOf_70 : decode cX0_soonestOf 70 = .ok (.aload_n 0, 1) := by decide +kernel
theorem dX0_soonestOf_71 : decode cX0_soonestOf 71 = .ok (.getfield 24, 3) := by decide +kernel
theorem dX0_soonestOf_74 : decode cX0_soonestOf 74 = .ok (.ireturn, 1) := by decide +kernel
theorem dX0_minutesAlone_0 : decode cX0_minutesAlone 0 = .ok (.aload_n 0, 1) := by decide +kernel
theorem dX0_minutesAlone_1 : decode cX0_minutesAlone 1 = .ok (.aload_n 1, 1) := by decide +kernel
theorem dX0_minutesAlone_2 : decode cX0_minutesAlone 2 = .ok (.aload_n 2, 1) := by decide +kernel
theorem dX0_minutesAlone_3 : decode cX0_minutesAlone 3 = .ok (.iload_n 3, 1) := by decide +kernel
theorem dX0_minutesAlone_4 : decode cX0_minutesAlone 4 = .ok (.invokevirtual 61, 3) := by decide +kernel
theorem dX0_minutesAlone_7 : decode cX0_minutesAlone 7 = .ok (.iconst 0, 1) := by decide +kernel
theorem dX0_minutesAlone_8 : decode cX0_minutesAlone 8 = .ok (.istore 4, 2) := by decide +kernel
theorem dX0_minutesAlone_10 : decode cX0_minutesAlone 10 = .ok (.iconst 0, 1) := by decide +kernel
theorem dX0_minutesAlone_11 : decode cX0_minutesAlone 11 = .ok (.istore 5, 2) := by decide +kernel
theorem dX0_minutesAlone_13 : decode cX0_minutesAlone 13 = .ok (.iload 5, 2) := by decide +kernel
theorem dX0_minutesAlone_15 : decode cX0_minutesAlone 15 = .ok (.aload_n 1, 1) := by decide +kernel
theorem dX0_minutesAlone_16 : decode cX0_minutesAlone 16 = .ok (.getfield 35, 3) := by decide +kernel
theorem dX0_minutesAlone_19 : decode cX0_minutesAlone 19 = .ok (.if_icmp .ge 37, 3) := by decide +kernel
theorem dX0_minutesAlone_22 : decode cX0_minutesAlone 22 = .ok (.aload_n 0, 1) := by decide +kernel
theorem dX0_minutesAlone_23 : decode cX0_minutesAlone 23 = .ok (.getfield 21, 3) := by decide +kernel
theorem dX0_minutesAlone_26 : decode cX0_minutesAlone 26 = .ok (.iload_n 3, 1) := by decide +kernel
theorem dX0_minutesAlone_27 : decode cX0_minutesAlone 27 = .ok (.bipush 32, 2) := by decide +kernel
theorem dX0_minutesAlone_29 : decode cX0_minutesAlone 29 = .ok (.imul, 1) := by decide +kernel
theorem dX0_minutesAlone_30 : decode cX0_minutesAlone 30 = .ok (.iconst 1, 1) := by decide +kernel
theorem dX0_minutesAlone_31 : decode cX0_minutesAlone 31 = .ok (.iload 5, 2) := by decide +kernel
theorem dX0_minutesAlone_33 : decode cX0_minutesAlone 33 = .ok (.ishl, 1) := by decide +kernel
theorem dX0_minutesAlone_34 : decode cX0_minutesAlone 34 = .ok (.iadd, 1) := by decide +kernel
theorem dX0_minutesAlone_35 : decode cX0_minutesAlone 35 = .ok (.iaload, 1) := by decide +kernel
theorem dX0_minutesAlone_36 : decode cX0_minutesAlone 36 = .ok (.ldc 56, 2) := by decide +kernel
theorem dX0_minutesAlone_38 : decode cX0_minutesAlone 38 = .ok (.if_icmp .ge 12, 3) := by decide +kernel
theorem dX0_minutesAlone_41 : decode cX0_minutesAlone 41 = .ok (.iload 4, 2) := by decide +kernel
theorem dX0_minutesAlone_43 : decode cX0_minutesAlone 43 = .ok (.iconst 1, 1) := by decide +kernel
theorem dX0_minutesAlone_44 : decode cX0_minutesAlone 44 = .ok (.iload 5, 2) := by decide +kernel
theorem dX0_minutesAlone_46 : decode cX0_minutesAlone 46 = .ok (.ishl, 1) := by decide +kernel
theorem dX0_minutesAlone_47 : decode cX0_minutesAlone 47 = .ok (.ior, 1) := by decide +kernel
theorem dX0_minutesAlone_48 : decode cX0_minutesAlone 48 = .ok (.istore 4, 2) := by decide +kernel
theorem dX0_minutesAlone_50 : decode cX0_minutesAlone 50 = .ok (.iinc 5 1, 3) := by decide +kernel
theorem dX0_minutesAlone_53 : decode cX0_minutesAlone 53 = .ok (.goto (-40), 3) := by decide +kernel
theorem dX0_minutesAlone_56 : decode cX0_minutesAlone 56 = .ok (.aload_n 0, 1) := by decide +kernel
theorem dX0_minutesAlone_57 : decode cX0_minutesAlone 57 = .ok (.getfield 21, 3) := by decide +kernel
theorem dX0_minutesAlone_60 : decode cX0_minutesAlone 60 = .ok (.iload_n 3, 1) := by decide +kernel
theorem dX0_minutesAlone_61 : decode cX0_minutesAlone 61 = .ok (.bipush 32, 2) := by decide +kernel
theorem dX0_minutesAlone_63 : decode cX0_minutesAlone 63 = .ok (.imul, 1) := by decide +kernel
theorem dX0_minutesAlone_64 : decode cX0_minutesAlone 64 = .ok (.iload 4, 2) := by decide +kernel
theorem dX0_minutesAlone_66 : decode cX0_minutesAlone 66 = .ok (.iadd, 1) := by decide +kernel
theorem dX0_minutesAlone_67 : decode cX0_minutesAlone 67 = .ok (.iaload, 1) := by decide +kernel
theorem dX0_minutesAlone_68 : decode cX0_minutesAlone 68 = .ok (.ireturn, 1) := by decide +kernel
theorem dX0_leftLying_0 : decode cX0_leftLying 0 = .ok (.aload_n 0, 1) := by decide +kernel
theorem dX0_leftLying_1 : decode cX0_leftLying 1 = .ok (.aload_n 1, 1) := by decide +kernel
theorem dX0_leftLying_2 : decode cX0_leftLying 2 = .ok (.aload_n 2, 1) := by decide +kernel
theorem dX0_leftLying_3 : decode cX0_leftLying 3 = .ok (.invokevirtual 31, 3) := by decide +kernel
theorem dX0_leftLying_6 : decode cX0_leftLying 6 = .ok (.iconst 0, 1) := by decide +kernel
theorem dX0_leftLying_7 : decode cX0_leftLying 7 = .ok (.istore_n 3, 1) := by decide +kernel
theorem dX0_leftLying_8 : decode cX0_leftLying 8 = .ok (.iconst 0, 1) := by decide +kernel
theorem dX0_leftLying_9 : decode cX0_leftLying 9 = .ok (.istore 4, 2) := by decide +kernel
theorem dX0_leftLying_11 : decode cX0_leftLying 11 = .ok (.iload 4, 2) := by decide +kernel
theorem dX0_leftLying_13 : decode cX0_leftLying 13 = .ok (.aload_n 1, 1) := by decide +kernel
theorem dX0_leftLying_14 : decode cX0_leftLying 14 = .ok (.getfield 35, 3) := by decide +kernel
theorem dX0_leftLying_17 : decode cX0_leftLying 17 = .ok (.if_icmp .ge 41, 3) := by decide +kernel
theorem dX0_leftLying_20 : decode cX0_leftLying 20 = .ok (.aload_n 1, 1) := by decide +kernel
theorem dX0_leftLying_21 : decode cX0_leftLying 21 = .ok (.aload_n 2, 1) := by decide +kernel
theorem dX0_leftLying_22 : decode cX0_leftLying 22 = .ok (.iload 4, 2) := by decide +kernel
theorem dX0_leftLying_24 : decode cX0_leftLying 24 = .ok (.invokestatic 40, 3) := by decide +kernel
theorem dX0_leftLying_27 : decode cX0_leftLying 27 = .ok (.ifCond .eq 25, 3) := by decide +kernel
theorem dX0_leftLying_30 : decode cX0_leftLying 30 = .ok (.aload_n 0, 1) := by decide +kernel
theorem dX0_leftLying_31 : decode cX0_leftLying 31 = .ok (.aload_n 1, 1) := by decide +kernel
theorem dX0_leftLying_32 : decode cX0_leftLying 32 = .ok (.getfield 44, 3) := by decide +kernel
theorem dX0_leftLying_35 : decode cX0_leftLying 35 = .ok (.iload 4, 2) := by decide +kernel
theorem dX0_leftLying_37 : decode cX0_leftLying 37 = .ok (.invokevirtual 47, 3) := by decide +kernel
theorem dX0_leftLying_40 : decode cX0_leftLying 40 = .ok (.ldc 56, 2) := by decide +kernel
theorem dX0_leftLying_42 : decode cX0_leftLying 42 = .ok (.if_icmp .lt 10, 3) := by decide +kernel
theorem dX0_leftLying_45 : decode cX0_leftLying 45 = .ok (.iload_n 3, 1) := by decide +kernel
theorem dX0_leftLying_46 : decode cX0_leftLying 46 = .ok (.iconst 1, 1) := by decide +kernel
theorem dX0_leftLying_47 : decode cX0_leftLying 47 = .ok (.iload 4, 2) := by decide +kernel
theorem dX0_leftLying_49 : decode cX0_leftLying 49 = .ok (.ishl, 1) := by decide +kernel
theorem dX0_leftLying_50 : decode cX0_leftLying 50 = .ok (.ior, 1) := by decide +kernel
theorem dX0_leftLying_51 : decode cX0_leftLying 51 = .ok (.istore_n 3, 1) := by decide +kernel
theorem dX0_leftLying_52 : decode cX0_leftLying 52 = .ok (.iinc 4 1, 3) := by decide +kernel
theorem dX0_leftLying_55 : decode cX0_leftLying 55 = .ok (.goto (-44), 3) := by decide +kernel
theorem dX0_leftLying_58 : decode cX0_leftLying 58 = .ok (.iload_n 3, 1) := by decide +kernel
theorem dX0_leftLying_59 : decode cX0_leftLying 59 = .ok (.ireturn, 1) := by decide +kernel
theorem dX0_quickest_0 : decode cX0_quickest 0 = .ok (.ldc 56, 2) := by decide +kernel
theorem dX0_quickest_2 : decode cX0_quickest 2 = .ok (.istore_n 3, 1) := by decide +kernel
theorem dX0_quickest_3 : decode cX0_quickest 3 = .ok (.iconst 0, 1) := by decide +kernel
theorem dX0_quickest_4 : decode cX0_quickest 4 = .ok (.istore 4, 2) := by decide +kernel
theorem dX0_quickest_6 : decode cX0_quickest 6 = .ok (.iload 4, 2) := by decide +kernel
theorem dX0_quickest_8 : decode cX0_quickest 8 = .ok (.iload_n 1, 1) := by decide +kernel
theorem dX0_quickest_9 : decode cX0_quickest 9 = .ok (.if_icmp .ge 28, 3) := by decide +kernel
theorem dX0_quickest_12 : decode cX0_quickest 12 = .ok (.iload_n 3, 1) := by decide +kernel
theorem dX0_quickest_13 : decode cX0_quickest 13 = .ok (.aload_n 0, 1) := by decide +kernel
theorem dX0_quickest_14 : decode cX0_quickest 14 = .ok (.getfield 21, 3) := by decide +kernel
theorem dX0_quickest_17 : decode cX0_quickest 17 = .ok (.iload 4, 2) := by decide +kernel
theorem dX0_quickest_19 : decode cX0_quickest 19 = .ok (.bipush 32, 2) := by decide +kernel
theorem dX0_quickest_21 : decode cX0_quickest 21 = .ok (.imul, 1) := by decide +kernel
theorem dX0_quickest_22 : decode cX0_quickest 22 = .ok (.iconst 1, 1) := by decide +kernel
theorem dX0_quickest_23 : decode cX0_quickest 23 = .ok (.iload_n 2, 1) := by decide +kernel
theorem dX0_quickest_24 : decode cX0_quickest 24 = .ok (.ishl, 1) := by decide +kernel
theorem dX0_quickest_25 : decode cX0_quickest 25 = .ok (.iadd, 1) := by decide +kernel
theorem dX0_quickest_26 : decode cX0_quickest 26 = .ok (.iaload, 1) := by decide +kernel
theorem dX0_quickest_27 : decode cX0_quickest 27 = .ok (.invokestatic 65, 3) := by decide +kernel
theorem dX0_quickest_30 : decode cX0_quickest 30 = .ok (.istore_n 3, 1) := by decide +kernel
theorem dX0_quickest_31 : decode cX0_quickest 31 = .ok (.iinc 4 1, 3) := by decide +kernel
theorem dX0_quickest_34 : decode cX0_quickest 34 = .ok (.goto (-28), 3) := by decide +kernel
theorem dX0_quickest_37 : decode cX0_quickest 37 = .ok (.iload_n 3, 1) := by decide +kernel
theorem dX0_quickest_38 : decode cX0_quickest 38 = .ok (.ireturn, 1) := by decide +kernel
theorem dX0_mustGo_0 : decode cX0_mustGo 0 = .ok (.aload_n 1, 1) := by decide +kernel
theorem dX0_mustGo_1 : decode cX0_mustGo 1 = .ok (.iload_n 2, 1) := by decide +kernel
theorem dX0_mustGo_2 : decode cX0_mustGo 2 = .ok (.invokevirtual 68, 3) := by decide +kernel
theorem dX0_mustGo_5 : decode cX0_mustGo 5 = .ok (.aload_n 0, 1) := by decide +kernel
theorem dX0_mustGo_6 : decode cX0_mustGo 6 = .ok (.getfield 74, 3) := by decide +kernel
theorem dX0_mustGo_9 : decode cX0_mustGo 9 = .ok (.iload_n 2, 1) := by decide +kernel
theorem dX0_mustGo_10 : decode cX0_mustGo 10 = .ok (.aaload, 1) := by decide +kernel
theorem dX0_mustGo_11 : decode cX0_mustGo 11 = .ok (.getfield 78, 3) := by decide +kernel
theorem dX0_mustGo_14 : decode cX0_mustGo 14 = .ok (.if_icmp .eq 7, 3) := by decide +kernel
theorem dX0_mustGo_17 : decode cX0_mustGo 17 = .ok (.iconst 1, 1) := by decide +kernel
theorem dX0_mustGo_18 : decode cX0_mustGo 18 = .ok (.goto 4, 3) := by decide +kernel
theorem dX0_mustGo_21 : decode cX0_mustGo 21 = .ok (.iconst 0, 1) := by decide +kernel
theorem dX0_mustGo_22 : decode cX0_mustGo 22 = .ok (.ireturn, 1) := by decide +kernel
theorem dX0_weighAll_0 : decode cX0_weighAll 0 = .ok (.iconst 0, 1) := by decide +kernel
theorem dX0_weighAll_1 : decode cX0_weighAll 1 = .ok (.istore_n 3, 1) := by decide +kernel
theorem dX0_weighAll_2 : decode cX0_weighAll 2 = .ok (.iload_n 3, 1) := by decide +kernel
theorem dX0_weighAll_3 : decode cX0_weighAll 3 = .ok (.aload_n 1, 1) := by decide +kernel
theorem dX0_weighAll_4 : decode cX0_weighAll 4 = .ok (.getfield 44, 3) := by decide +kernel
theorem dX0_weighAll_7 : decode cX0_weighAll 7 = .ok (.if_icmp .ge 16, 3) := by decide +kernel
theorem dX0_weighAll_10 : decode cX0_weighAll 10 = .ok (.aload_n 0, 1) := by decide +kernel
theorem dX0_weighAll_11 : decode cX0_weighAll 11 = .ok (.aload_n 1, 1) := by decide +kernel
theorem dX0_weighAll_12 : decode cX0_weighAll 12 = .ok (.aload_n 2, 1) := by decide +kernel
theorem dX0_weighAll_13 : decode cX0_weighAll 13 = .ok (.iload_n 3, 1) := by decide +kernel
theorem dX0_weighAll_14 : decode cX0_weighAll 14 = .ok (.invokevirtual 61, 3) := by decide +kernel
theorem dX0_weighAll_17 : decode cX0_weighAll 17 = .ok (.iinc 3 1, 3) := by decide +kernel
theorem dX0_weighAll_20 : decode cX0_weighAll 20 = .ok (.goto (-18), 3) := by decide +kernel
theorem dX0_weighAll_23 : decode cX0_weighAll 23 = .ok (.return_, 1) := by decide +kernel
theorem dX0_weigh_0 : decode cX0_weigh 0 = .ok (.iconst 0, 1) := by decide +kernel
theorem dX0_weigh_1 : decode cX0_weigh 1 = .ok (.istore 4, 2) := by decide +kernel
theorem dX0_weigh_3 : decode cX0_weigh 3 = .ok (.iload 4, 2) := by decide +kernel
theorem dX0_weigh_5 : decode cX0_weigh 5 = .ok (.bipush 32, 2) := by decide +kernel
theorem dX0_weigh_7 : decode cX0_weigh 7 = .ok (.if_icmp .ge 23, 3) := by decide +kernel
theorem dX0_weigh_10 : decode cX0_weigh 10 = .ok (.aload_n 0, 1) := by decide +kernel
theorem dX0_weigh_11 : decode cX0_weigh 11 = .ok (.getfield 21, 3) := by decide +kernel
theorem dX0_weigh_14 : decode cX0_weigh 14 = .ok (.iload_n 3, 1) := by decide +kernel
theorem dX0_weigh_15 : decode cX0_weigh 15 = .ok (.bipush 32, 2) := by decide +kernel
theorem dX0_weigh_17 : decode cX0_weigh 17 = .ok (.imul, 1) := by decide +kernel
theorem dX0_weigh_18 : decode cX0_weigh 18 = .ok (.iload 4, 2) := by decide +kernel
theorem dX0_weigh_20 : decode cX0_weigh 20 = .ok (.iadd, 1) := by decide +kernel
theorem dX0_weigh_21 : decode cX0_weigh 21 = .ok (.ldc 56, 2) := by decide +kernel
theorem dX0_weigh_23 : decode cX0_weigh 23 = .ok (.iastore, 1) := by decide +kernel
theorem dX0_weigh_24 : decode cX0_weigh 24 = .ok (.iinc 4 1, 3) := by decide +kernel
theorem dX0_weigh_27 : decode cX0_weigh 27 = .ok (.goto (-24), 3) := by decide +kernel
theorem dX0_weigh_30 : decode cX0_weigh 30 = .ok (.aload_n 1, 1) := by decide +kernel
theorem dX0_weigh_31 : decode cX0_weigh 31 = .ok (.getfield 83, 3) := by decide +kernel
theorem dX0_weigh_34 : decode cX0_weigh 34 = .ok (.iload_n 3, 1) := by decide +kernel
theorem dX0_weigh_35 : decode cX0_weigh 35 = .ok (.aaload, 1) := by decide +kernel
theorem dX0_weigh_36 : decode cX0_weigh 36 = .ok (.getfield 87, 3) := by decide +kernel
theorem dX0_weigh_39 : decode cX0_weigh 39 = .ok (.iconst 1, 1) := by decide +kernel
theorem dX0_weigh_40 : decode cX0_weigh 40 = .ok (.if_icmp .ne 21, 3) := by decide +kernel
theorem dX0_weigh_43 : decode cX0_weigh 43 = .ok (.aload_n 0, 1) := by decide +kernel
theorem dX0_weigh_44 : decode cX0_weigh 44 = .ok (.aload_n 1, 1) := by decide +kernel
theorem dX0_weigh_45 : decode cX0_weigh 45 = .ok (.aload_n 2, 1) := by decide +kernel
theorem dX0_weigh_46 : decode cX0_weigh 46 = .ok (.iload_n 3, 1) := by decide +kernel
theorem dX0_weigh_47 : decode cX0_weigh 47 = .ok (.aload_n 1, 1) := by decide +kernel
theorem dX0_weigh_48 : decode cX0_weigh 48 = .ok (.getfield 83, 3) := by decide +kernel
theorem dX0_weigh_51 : decode cX0_weigh 51 = .ok (.iload_n 3, 1) := by decide +kernel
theorem dX0_weigh_52 : decode cX0_weigh 52 = .ok (.aaload, 1) := by decide +kernel
theorem dX0_weigh_53 : decode cX0_weigh 53 = .ok (.getfield 92, 3) := by decide +kernel
theorem dX0_weigh_56 : decode cX0_weigh 56 = .ok (.iconst 0, 1) := by decide +kernel
theorem dX0_weigh_57 : decode cX0_weigh 57 = .ok (.iconst 0, 1) := by decide +kernel
theorem dX0_weigh_58 : decode cX0_weigh 58 = .ok (.invokevirtual 95, 3) := by decide +kernel
theorem dX0_weigh_61 : decode cX0_weigh 61 = .ok (.return_, 1) := by decide +kernel
theorem dX0_carryOn_0 : decode cX0_carryOn 0 = .ok (.iload_n 3, 1) := by decide +kernel
theorem dX0_carryOn_1 : decode cX0_carryOn 1 = .ok (.bipush 32, 2) := by decide +kernel
theorem dX0_carryOn_3 : decode cX0_carryOn 3 = .ok (.imul, 1) := by decide +kernel
theorem dX0_carryOn_4 : decode cX0_carryOn 4 = .ok (.iload 5, 2) := by decide +kernel
theorem dX0_carryOn_6 : decode cX0_carryOn 6 = .ok (.iadd, 1) := by decide +kernel
theorem dX0_carryOn_7 : decode cX0_carryOn 7 = .ok (.istore 7, 2) := by decide +kernel
theorem dX0_carryOn_9 : decode cX0_carryOn 9 = .ok (.aload_n 0, 1) := by decide +kernel
theorem dX0_carryOn_10 : decode cX0_carryOn 10 = .ok (.getfield 21, 3) := by decide +kernel
theorem dX0_carryOn_13 : decode cX0_carryOn 13 = .ok (.iload 7, 2) := by decide +kernel
theorem dX0_carryOn_15 : decode cX0_carryOn 15 = .ok (.aload_n 0, 1) := by decide +kernel
theorem dX0_carryOn_16 : decode cX0_carryOn 16 = .ok (.getfield 21, 3) := by decide +kernel
theorem dX0_carryOn_19 : decode cX0_carryOn 19 = .ok (.iload 7, 2) := by decide +kernel
theorem dX0_carryOn_21 : decode cX0_carryOn 21 = .ok (.iaload, 1) := by decide +kernel
theorem dX0_carryOn_22 : decode cX0_carryOn 22 = .ok (.iload 6, 2) := by decide +kernel
theorem dX0_carryOn_24 : decode cX0_carryOn 24 = .ok (.invokestatic 65, 3) := by decide +kernel
theorem dX0_carryOn_27 : decode cX0_carryOn 27 = .ok (.iastore, 1) := by decide +kernel
theorem dX0_carryOn_28 : decode cX0_carryOn 28 = .ok (.iconst 0, 1) := by decide +kernel
theorem dX0_carryOn_29 : decode cX0_carryOn 29 = .ok (.istore 8, 2) := by decide +kernel
theorem dX0_carryOn_31 : decode cX0_carryOn 31 = .ok (.iload 8, 2) := by decide +kernel
theorem dX0_carryOn_33 : decode cX0_carryOn 33 = .ok (.aload_n 1, 1) := by decide +kernel
theorem dX0_carryOn_34 : decode cX0_carryOn 34 = .ok (.getfield 35, 3) := by decide +kernel
theorem dX0_carryOn_37 : decode cX0_carryOn 37 = .ok (.if_icmp .ge 126, 3) := by decide +kernel
theorem dX0_carryOn_40 : decode cX0_carryOn 40 = .ok (.iload 5, 2) := by decide +kernel
theorem dX0_carryOn_42 : decode cX0_carryOn 42 = .ok (.iload 8, 2) := by decide +kernel
theorem dX0_carryOn_44 : decode cX0_carryOn 44 = .ok (.ishr, 1) := by decide +kernel
theorem dX0_carryOn_45 : decode cX0_carryOn 45 = .ok (.iconst 1, 1) := by decide +kernel
theorem dX0_carryOn_46 : decode cX0_carryOn 46 = .ok (.iand, 1) := by decide +kernel
theorem dX0_carryOn_47 : decode cX0_carryOn 47 = .ok (.iconst 1, 1) := by decide +kernel
theorem dX0_carryOn_48 : decode cX0_carryOn 48 = .ok (.if_icmp .eq 109, 3) := by decide +kernel
theorem dX0_carryOn_51 : decode cX0_carryOn 51 = .ok (.aload_n 1, 1) := by decide +kernel
theorem dX0_carryOn_52 : decode cX0_carryOn 52 = .ok (.aload_n 2, 1) := by decide +kernel
theorem dX0_carryOn_53 : decode cX0_carryOn 53 = .ok (.iload 8, 2) := by decide +kernel
theorem dX0_carryOn_55 : decode cX0_carryOn 55 = .ok (.invokestatic 40, 3) := by decide +kernel
theorem dX0_carryOn_58 : decode cX0_carryOn 58 = .ok (.ifCond .ne 6, 3) := by decide +kernel
theorem dX0_carryOn_61 : decode cX0_carryOn 61 = .ok (.goto 96, 3) := by decide +kernel
theorem dX0_carryOn_64 : decode cX0_carryOn 64 = .ok (.aload_n 1, 1) := by decide +kernel
theorem dX0_carryOn_65 : decode cX0_carryOn 65 = .ok (.getfield 74, 3) := by decide +kernel
theorem dX0_carryOn_68 : decode cX0_carryOn 68 = .ok (.iload 8, 2) := by decide +kernel
theorem dX0_carryOn_70 : decode cX0_carryOn 70 = .ok (.aaload, 1) := by decide +kernel
theorem dX0_carryOn_71 : decode cX0_carryOn 71 = .ok (.astore 9, 2) := by decide +kernel
theorem dX0_carryOn_73 : decode cX0_carryOn 73 = .ok (.aload_n 2, 1) := by decide +kernel
theorem dX0_carryOn_74 : decode cX0_carryOn 74 = .ok (.iload 8, 2) := by decide +kernel
theorem dX0_carryOn_76 : decode cX0_carryOn 76 = .ok (.invokevirtual 68, 3) := by decide +kernel
theorem dX0_carryOn_79 : decode cX0_carryOn 79 = .ok (.istore 10, 2) := by decide +kernel
theorem dX0_carryOn_81 : decode cX0_carryOn 81 = .ok (.aload_n 1, 1) := by decide +kernel
theorem dX0_carryOn_82 : decode cX0_carryOn 82 = .ok (.getfield 99, 3) := by decide +kernel
theorem dX0_carryOn_85 : decode cX0_carryOn 85 = .ok (.iload 4, 2) := by decide +kernel
theorem dX0_carryOn_87 : decode cX0_carryOn 87 = .ok (.iload 10, 2) := by decide +kernel
theorem dX0_carryOn_89 : decode cX0_carryOn 89 = .ok (.invokevirtual 103, 3) := by decide +kernel
theorem dX0_carryOn_92 : decode cX0_carryOn 92 = .ok (.aload_n 1, 1) := by decide +kernel
theorem dX0_carryOn_93 : decode cX0_carryOn 93 = .ok (.getfield 99, 3) := by decide +kernel
theorem dX0_carryOn_96 : decode cX0_carryOn 96 = .ok (.iload 10, 2) := by decide +kernel
theorem dX0_carryOn_98 : decode cX0_carryOn 98 = .ok (.aload 9, 2) := by decide +kernel
theorem dX0_carryOn_100 : decode cX0_carryOn 100 = .ok (.getfield 78, 3) := by decide +kernel
theorem dX0_carryOn_103 : decode cX0_carryOn 103 = .ok (.invokevirtual 103, 3) := by decide +kernel
theorem dX0_carryOn_106 : decode cX0_carryOn 106 = .ok (.iadd, 1) := by decide +kernel
theorem dX0_carryOn_107 : decode cX0_carryOn 107 = .ok (.istore 11, 2) := by decide +kernel
theorem dX0_carryOn_109 : decode cX0_carryOn 109 = .ok (.aload 9, 2) := by decide +kernel
theorem dX0_carryOn_111 : decode cX0_carryOn 111 = .ok (.getfield 108, 3) := by decide +kernel
theorem dX0_carryOn_114 : decode cX0_carryOn 114 = .ok (.aload_n 1, 1) := by decide +kernel
theorem dX0_carryOn_115 : decode cX0_carryOn 115 = .ok (.getfield 83, 3) := by decide +kernel
theorem dX0_carryOn_118 : decode cX0_carryOn 118 = .ok (.iload_n 3, 1) := by decide +kernel
theorem dX0_carryOn_119 : decode cX0_carryOn 119 = .ok (.aaload, 1) := by decide +kernel
theorem dX0_carryOn_120 : decode cX0_carryOn 120 = .ok (.invokevirtual 111, 3) := by decide +kernel
theorem dX0_carryOn_123 : decode cX0_carryOn 123 = .ok (.if_icmp .gt 34, 3) := by decide +kernel
theorem dX0_carryOn_126 : decode cX0_carryOn 126 = .ok (.iload 11, 2) := by decide +kernel
theorem dX0_carryOn_128 : decode cX0_carryOn 128 = .ok (.ldc 56, 2) := by decide +kernel
theorem dX0_carryOn_130 : decode cX0_carryOn 130 = .ok (.if_icmp .ge 27, 3) := by decide +kernel
theorem dX0_carryOn_133 : decode cX0_carryOn 133 = .ok (.aload_n 0, 1) := by decide +kernel
theorem dX0_carryOn_134 : decode cX0_carryOn 134 = .ok (.aload_n 1, 1) := by decide +kernel
theorem dX0_carryOn_135 : decode cX0_carryOn 135 = .ok (.aload_n 2, 1) := by decide +kernel
theorem dX0_carryOn_136 : decode cX0_carryOn 136 = .ok (.iload_n 3, 1) := by decide +kernel
theorem dX0_carryOn_137 : decode cX0_carryOn 137 = .ok (.aload 9, 2) := by decide +kernel
theorem dX0_carryOn_139 : decode cX0_carryOn 139 = .ok (.getfield 78, 3) := by decide +kernel
theorem dX0_carryOn_142 : decode cX0_carryOn 142 = .ok (.iload 5, 2) := by decide +kernel
theorem dX0_carryOn_144 : decode cX0_carryOn 144 = .ok (.iconst 1, 1) := by decide +kernel
theorem dX0_carryOn_145 : decode cX0_carryOn 145 = .ok (.iload 8, 2) := by decide +kernel
theorem dX0_carryOn_147 : decode cX0_carryOn 147 = .ok (.ishl, 1) := by decide +kernel
theorem dX0_carryOn_148 : decode cX0_carryOn 148 = .ok (.ior, 1) := by decide +kernel
theorem dX0_carryOn_149 : decode cX0_carryOn 149 = .ok (.iload 6, 2) := by decide +kernel
theorem dX0_carryOn_151 : decode cX0_carryOn 151 = .ok (.iload 11, 2) := by decide +kernel
theorem dX0_carryOn_153 : decode cX0_carryOn 153 = .ok (.iadd, 1) := by decide +kernel
theorem dX0_carryOn_154 : decode cX0_carryOn 154 = .ok (.invokevirtual 95, 3) := by decide +kernel
theorem dX0_carryOn_157 : decode cX0_carryOn 157 = .ok (.iinc 8 1, 3) := by decide +kernel
theorem dX0_carryOn_160 : decode cX0_carryOn 160 = .ok (.goto (-129), 3) := by decide +kernel
theorem dX0_carryOn_163 : decode cX0_carryOn 163 = .ok (.return_, 1) := by decide +kernel
theorem dX0_tryGood_0 : decode cX0_tryGood 0 = .ok (.iload 4, 2) := by decide +kernel
theorem dX0_tryGood_2 : decode cX0_tryGood 2 = .ok (.aload_n 0, 1) := by decide +kernel
theorem dX0_tryGood_3 : decode cX0_tryGood 3 = .ok (.getfield 24, 3) := by decide +kernel
theorem dX0_tryGood_6 : decode cX0_tryGood 6 = .ok (.if_icmp .ge 14, 3) := by decide +kernel
theorem dX0_tryGood_9 : decode cX0_tryGood 9 = .ok (.aload_n 0, 1) := by decide +kernel
theorem dX0_tryGood_10 : decode cX0_tryGood 10 = .ok (.getfield 28, 3) := by decide +kernel
theorem dX0_tryGood_13 : decode cX0_tryGood 13 = .ok (.aload_n 0, 1) := by decide +kernel
theorem dX0_tryGood_14 : decode cX0_tryGood 14 = .ok (.getfield 24, 3) := by decide +kernel
theorem dX0_tryGood_17 : decode cX0_tryGood 17 = .ok (.if_icmp .lt 4, 3) := by decide +kernel
theorem dX0_tryGood_20 : decode cX0_tryGood 20 = .ok (.return_, 1) := by decide +kernel
theorem dX0_tryGood_21 : decode cX0_tryGood 21 = .ok (.iload_n 3, 1) := by decide +kernel
theorem dX0_tryGood_22 : decode cX0_tryGood 22 = .ok (.aload_n 1, 1) := by decide +kernel
theorem dX0_tryGood_23 : decode cX0_tryGood 23 = .ok (.getfield 35, 3) := by decide +kernel
theorem dX0_tryGood_26 : decode cX0_tryGood 26 = .ok (.if_icmp .lt 24, 3) := by decide +kernel
theorem dX0_tryGood_29 : decode cX0_tryGood 29 = .ok (.aload_n 0, 1) := by decide +kernel
theorem dX0_tryGood_30 : decode cX0_tryGood 30 = .ok (.iload 4, 2) := by decide +kernel
theorem dX0_tryGood_32 : decode cX0_tryGood 32 = .ok (.putfield 24, 3) := by decide +kernel
theorem dX0_tryGood_35 : decode cX0_tryGood 35 = .ok (.aload_n 0, 1) := by decide +kernel
theorem dX0_tryGood_36 : decode cX0_tryGood 36 = .ok (.getfield 15, 3) := by decide +kernel
theorem dX0_tryGood_39 : decode cX0_tryGood 39 = .ok (.iconst 0, 1) := by decide +kernel
theorem dX0_tryGood_40 : decode cX0_tryGood 40 = .ok (.aload_n 0, 1) := by decide +kernel
theorem dX0_tryGood_41 : decode cX0_tryGood 41 = .ok (.getfield 9, 3) := by decide +kernel
theorem dX0_tryGood_44 : decode cX0_tryGood 44 = .ok (.iconst 0, 1) := by decide +kernel
theorem dX0_tryGood_45 : decode cX0_tryGood 45 = .ok (.iconst 5, 1) := by decide +kernel
theorem dX0_tryGood_46 : decode cX0_tryGood 46 = .ok (.invokestatic 115, 3) := by decide +kernel
theorem dX0_tryGood_49 : decode cX0_tryGood 49 = .ok (.return_, 1) := by decide +kernel
theorem dX0_tryGood_50 : decode cX0_tryGood 50 = .ok (.aload_n 1, 1) := by decide +kernel
theorem dX0_tryGood_51 : decode cX0_tryGood 51 = .ok (.aload_n 2, 1) := by decide +kernel
theorem dX0_tryGood_52 : decode cX0_tryGood 52 = .ok (.iload_n 3, 1) := by decide +kernel
theorem dX0_tryGood_53 : decode cX0_tryGood 53 = .ok (.invokestatic 40, 3) := by decide +kernel
theorem dX0_tryGood_56 : decode cX0_tryGood 56 = .ok (.ifCond .ne 23, 3) := by decide +kernel
theorem dX0_tryGood_59 : decode cX0_tryGood 59 = .ok (.aload_n 0, 1) := by decide +kernel
theorem dX0_tryGood_60 : decode cX0_tryGood 60 = .ok (.getfield 15, 3) := by decide +kernel
theorem dX0_tryGood_63 : decode cX0_tryGood 63 = .ok (.iload_n 3, 1) := by decide +kernel
theorem dX0_tryGood_64 : decode cX0_tryGood 64 = .ok (.bipush (-2), 2) := by decide +kernel
theorem dX0_tryGood_66 : decode cX0_tryGood 66 = .ok (.iastore, 1) := by decide +kernel
theorem dX0_tryGood_67 : decode cX0_tryGood 67 = .ok (.aload_n 0, 1) := by decide +kernel
theorem dX0_tryGood_68 : decode cX0_tryGood 68 = .ok (.aload_n 1, 1) := by decide +kernel
theorem dX0_tryGood_69 : decode cX0_tryGood 69 = .ok (.aload_n 2, 1) := by decide +kernel
theorem dX0_tryGood_70 : decode cX0_tryGood 70 = .ok (.iload_n 3, 1) := by decide +kernel
theorem dX0_tryGood_71 : decode cX0_tryGood 71 = .ok (.iconst 1, 1) := by decide +kernel
theorem dX0_tryGood_72 : decode cX0_tryGood 72 = .ok (.iadd, 1) := by decide +kernel
theorem dX0_tryGood_73 : decode cX0_tryGood 73 = .ok (.iload 4, 2) := by decide +kernel
theorem dX0_tryGood_75 : decode cX0_tryGood 75 = .ok (.invokevirtual 57, 3) := by decide +kernel
theorem dX0_tryGood_78 : decode cX0_tryGood 78 = .ok (.return_, 1) := by decide +kernel
theorem dX0_tryGood_79 : decode cX0_tryGood 79 = .ok (.iconst 0, 1) := by decide +kernel
theorem dX0_tryGood_80 : decode cX0_tryGood 80 = .ok (.istore 5, 2) := by decide +kernel
theorem dX0_tryGood_82 : decode cX0_tryGood 82 = .ok (.iload 5, 2) := by decide +kernel
theorem dX0_tryGood_84 : decode cX0_tryGood 84 = .ok (.aload_n 1, 1) := by decide +kernel
theorem dX0_tryGood_85 : decode cX0_tryGood 85 = .ok (.getfield 44, 3) := by decide +kernel
theorem dX0_tryGood_88 : decode cX0_tryGood 88 = .ok (.if_icmp .ge 90, 3) := by decide +kernel
theorem dX0_tryGood_91 : decode cX0_tryGood 91 = .ok (.aload_n 0, 1) := by decide +kernel
theorem dX0_tryGood_92 : decode cX0_tryGood 92 = .ok (.getfield 18, 3) := by decide +kernel
theorem dX0_tryGood_95 : decode cX0_tryGood 95 = .ok (.iload 5, 2) := by decide +kernel
theorem dX0_tryGood_97 : decode cX0_tryGood 97 = .ok (.iaload, 1) := by decide +kernel
theorem dX0_tryGood_98 : decode cX0_tryGood 98 = .ok (.istore 6, 2) := by decide +kernel
theorem dX0_tryGood_100 : decode cX0_tryGood 100 = .ok (.aload_n 0, 1) := by decide +kernel
theorem dX0_tryGood_101 : decode cX0_tryGood 101 = .ok (.getfield 21, 3) := by decide +kernel
theorem dX0_tryGood_104 : decode cX0_tryGood 104 = .ok (.iload 5, 2) := by decide +kernel
theorem dX0_tryGood_106 : decode cX0_tryGood 106 = .ok (.bipush 32, 2) := by decide +kernel
theorem dX0_tryGood_108 : decode cX0_tryGood 108 = .ok (.imul, 1) := by decide +kernel
theorem dX0_tryGood_109 : decode cX0_tryGood 109 = .ok (.iload 6, 2) := by decide +kernel
theorem dX0_tryGood_111 : decode cX0_tryGood 111 = .ok (.iconst 1, 1) := by decide +kernel
theorem dX0_tryGood_112 : decode cX0_tryGood 112 = .ok (.iload_n 3, 1) := by decide +kernel
theorem dX0_tryGood_113 : decode cX0_tryGood 113 = .ok (.ishl, 1) := by decide +kernel
theorem dX0_tryGood_114 : decode cX0_tryGood 114 = .ok (.ior, 1) := by decide +kernel
theorem dX0_tryGood_115 : decode cX0_tryGood 115 = .ok (.iadd, 1) := by decide +kernel
theorem dX0_tryGood_116 : decode cX0_tryGood 116 = .ok (.iaload, 1) := by decide +kernel
theorem dX0_tryGood_117 : decode cX0_tryGood 117 = .ok (.istore 7, 2) := by decide +kernel
theorem dX0_tryGood_119 : decode cX0_tryGood 119 = .ok (.iload 7, 2) := by decide +kernel
theorem dX0_tryGood_121 : decode cX0_tryGood 121 = .ok (.ldc 56, 2) := by decide +kernel
theorem dX0_tryGood_123 : decode cX0_tryGood 123 = .ok (.if_icmp .ge 49, 3) := by decide +kernel
theorem dX0_tryGood_126 : decode cX0_tryGood 126 = .ok (.aload_n 0, 1) := by decide +kernel
theorem dX0_tryGood_127 : decode cX0_tryGood 127 = .ok (.getfield 15, 3) := by decide +kernel
theorem dX0_tryGood_130 : decode cX0_tryGood 130 = .ok (.iload_n 3, 1) := by decide +kernel
theorem dX0_tryGood_131 : decode cX0_tryGood 131 = .ok (.iload 5, 2) := by decide +kernel
theorem dX0_tryGood_133 : decode cX0_tryGood 133 = .ok (.iastore, 1) := by decide +kernel
theorem dX0_tryGood_134 : decode cX0_tryGood 134 = .ok (.aload_n 0, 1) := by decide +kernel
theorem dX0_tryGood_135 : decode cX0_tryGood 135 = .ok (.getfield 18, 3) := by decide +kernel
theorem dX0_tryGood_138 : decode cX0_tryGood 138 = .ok (.iload 5, 2) := by decide +kernel
theorem dX0_tryGood_140 : decode cX0_tryGood 140 = .ok (.iload 6, 2) := by decide +kernel
theorem dX0_tryGood_142 : decode cX0_tryGood 142 = .ok (.iconst 1, 1) := by decide +kernel
theorem dX0_tryGood_143 : decode cX0_tryGood 143 = .ok (.iload_n 3, 1) := by decide +kernel
theorem dX0_tryGood_144 : decode cX0_tryGood 144 = .ok (.ishl, 1) := by decide +kernel
theorem dX0_tryGood_145 : decode cX0_tryGood 145 = .ok (.ior, 1) := by decide +kernel
theorem dX0_tryGood_146 : decode cX0_tryGood 146 = .ok (.iastore, 1) := by decide +kernel
theorem dX0_tryGood_147 : decode cX0_tryGood 147 = .ok (.aload_n 0, 1) := by decide +kernel
theorem dX0_tryGood_148 : decode cX0_tryGood 148 = .ok (.aload_n 1, 1) := by decide +kernel
theorem dX0_tryGood_149 : decode cX0_tryGood 149 = .ok (.aload_n 2, 1) := by decide +kernel
theorem dX0_tryGood_150 : decode cX0_tryGood 150 = .ok (.iload_n 3, 1) := by decide +kernel
theorem dX0_tryGood_151 : decode cX0_tryGood 151 = .ok (.iconst 1, 1) := by decide +kernel
theorem dX0_tryGood_152 : decode cX0_tryGood 152 = .ok (.iadd, 1) := by decide +kernel
theorem dX0_tryGood_153 : decode cX0_tryGood 153 = .ok (.iload 4, 2) := by decide +kernel
theorem dX0_tryGood_155 : decode cX0_tryGood 155 = .ok (.iload 7, 2) := by decide +kernel
theorem dX0_tryGood_157 : decode cX0_tryGood 157 = .ok (.invokestatic 51, 3) := by decide +kernel
theorem dX0_tryGood_160 : decode cX0_tryGood 160 = .ok (.invokevirtual 57, 3) := by decide +kernel
theorem dX0_tryGood_163 : decode cX0_tryGood 163 = .ok (.aload_n 0, 1) := by decide +kernel
theorem dX0_tryGood_164 : decode cX0_tryGood 164 = .ok (.getfield 18, 3) := by decide +kernel
theorem dX0_tryGood_167 : decode cX0_tryGood 167 = .ok (.iload 5, 2) := by decide +kernel
theorem dX0_tryGood_169 : decode cX0_tryGood 169 = .ok (.iload 6, 2) := by decide +kernel
theorem dX0_tryGood_171 : decode cX0_tryGood 171 = .ok (.iastore, 1) := by decide +kernel
theorem dX0_tryGood_172 : decode cX0_tryGood 172 = .ok (.iinc 5 1, 3) := by decide +kernel
theorem dX0_tryGood_175 : decode cX0_tryGood 175 = .ok (.goto (-93), 3) := by decide +kernel
theorem dX0_tryGood_178 : decode cX0_tryGood 178 = .ok (.return_, 1) := by decide +kernel
