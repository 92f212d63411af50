theorem dX3_init_0 : decode cX3_init 0 = .ok (.aload_n 0, 1) := by decide +kernel
theorem dX3_init_1 : decode cX3_init 1 = .ok (.invokespecial 3, 3) := by decide +kernel
theorem dX3_init_4 : decode cX3_init 4 = .ok (.aload_n 0, 1) := by decide +kernel
theorem dX3_init_5 : decode cX3_init 5 = .ok (.iconst 0, 1) := by decide +kernel
theorem dX3_init_6 : decode cX3_init 6 = .ok (.putfield 9, 3) := by decide +kernel
theorem dX3_init_9 : decode cX3_init 9 = .ok (.aload_n 0, 1) := by decide +kernel
theorem dX3_init_10 : decode cX3_init 10 = .ok (.iconst 0, 1) := by decide +kernel
theorem dX3_init_11 : decode cX3_init 11 = .ok (.putfield 15, 3) := by decide +kernel
theorem dX3_init_14 : decode cX3_init 14 = .ok (.aload_n 0, 1) := by decide +kernel
theorem dX3_init_15 : decode cX3_init 15 = .ok (.iconst 0, 1) := by decide +kernel
theorem dX3_init_16 : decode cX3_init 16 = .ok (.putfield 18, 3) := by decide +kernel
theorem dX3_init_19 : decode cX3_init 19 = .ok (.aload_n 0, 1) := by decide +kernel
theorem dX3_init_20 : decode cX3_init 20 = .ok (.iconst 5, 1) := by decide +kernel
theorem dX3_init_21 : decode cX3_init 21 = .ok (.newarray .int, 2) := by decide +kernel
theorem dX3_init_23 : decode cX3_init 23 = .ok (.putfield 21, 3) := by decide +kernel
theorem dX3_init_26 : decode cX3_init 26 = .ok (.return_, 1) := by decide +kernel
theorem dX3_strength_0 : decode cX3_strength 0 = .ok (.aload_n 0, 1) := by decide +kernel
theorem dX3_strength_1 : decode cX3_strength 1 = .ok (.getfield 9, 3) := by decide +kernel
theorem dX3_strength_4 : decode cX3_strength 4 = .ok (.iconst 1, 1) := by decide +kernel
theorem dX3_strength_5 : decode cX3_strength 5 = .ok (.if_icmp .ne 12, 3) := by decide +kernel
theorem dX3_strength_8 : decode cX3_strength 8 = .ok (.aload_n 0, 1) := by decide +kernel
theorem dX3_strength_9 : decode cX3_strength 9 = .ok (.getfield 18, 3) := by decide +kernel
theorem dX3_strength_12 : decode cX3_strength 12 = .ok (.iconst 3, 1) := by decide +kernel
theorem dX3_strength_13 : decode cX3_strength 13 = .ok (.idiv, 1) := by decide +kernel
theorem dX3_strength_14 : decode cX3_strength 14 = .ok (.goto 4, 3) := by decide +kernel
theorem dX3_strength_17 : decode cX3_strength 17 = .ok (.iconst 0, 1) := by decide +kernel
theorem dX3_strength_18 : decode cX3_strength 18 = .ok (.ireturn, 1) := by decide +kernel
theorem dX3_marksOver_0 : decode cX3_marksOver 0 = .ok (.iconst 0, 1) := by decide +kernel
theorem dX3_marksOver_1 : decode cX3_marksOver 1 = .ok (.istore_n 2, 1) := by decide +kernel
theorem dX3_marksOver_2 : decode cX3_marksOver 2 = .ok (.iconst 0, 1) := by decide +kernel
theorem dX3_marksOver_3 : decode cX3_marksOver 3 = .ok (.istore_n 3, 1) := by decide +kernel
theorem dX3_marksOver_4 : decode cX3_marksOver 4 = .ok (.iload_n 3, 1) := by decide +kernel
theorem dX3_marksOver_5 : decode cX3_marksOver 5 = .ok (.iconst 3, 1) := by decide +kernel
theorem dX3_marksOver_6 : decode cX3_marksOver 6 = .ok (.if_icmp .ge 25, 3) := by decide +kernel
theorem dX3_marksOver_9 : decode cX3_marksOver 9 = .ok (.aload_n 0, 1) := by decide +kernel
theorem dX3_marksOver_10 : decode cX3_marksOver 10 = .ok (.getfield 18, 3) := by decide +kernel
theorem dX3_marksOver_13 : decode cX3_marksOver 13 = .ok (.bipush 10, 2) := by decide +kernel
theorem dX3_marksOver_15 : decode cX3_marksOver 15 = .ok (.iload_n 3, 1) := by decide +kernel
theorem dX3_marksOver_16 : decode cX3_marksOver 16 = .ok (.imul, 1) := by decide +kernel
theorem dX3_marksOver_17 : decode cX3_marksOver 17 = .ok (.isub, 1) := by decide +kernel
theorem dX3_marksOver_18 : decode cX3_marksOver 18 = .ok (.iload_n 1, 1) := by decide +kernel
theorem dX3_marksOver_19 : decode cX3_marksOver 19 = .ok (.if_icmp .le 6, 3) := by decide +kernel
theorem dX3_marksOver_22 : decode cX3_marksOver 22 = .ok (.iinc 2 1, 3) := by decide +kernel
theorem dX3_marksOver_25 : decode cX3_marksOver 25 = .ok (.iinc 3 1, 3) := by decide +kernel
theorem dX3_marksOver_28 : decode cX3_marksOver 28 = .ok (.goto (-24), 3) := by decide +kernel
theorem dX3_marksOver_31 : decode cX3_marksOver 31 = .ok (.iload_n 2, 1) := by decide +kernel
theorem dX3_marksOver_32 : decode cX3_marksOver 32 = .ok (.ireturn, 1) := by decide +kernel
theorem dX3_shows_0 : decode cX3_shows 0 = .ok (.iload_n 2, 1) := by decide +kernel
theorem dX3_shows_1 : decode cX3_shows 1 = .ok (.ifCond .eq 13, 3) := by decide +kernel
theorem dX3_shows_4 : decode cX3_shows 4 = .ok (.iconst 1, 1) := by decide +kernel
theorem dX3_shows_5 : decode cX3_shows 5 = .ok (.aload_n 0, 1) := by decide +kernel
theorem dX3_shows_6 : decode cX3_shows 6 = .ok (.iload_n 1, 1) := by decide +kernel
theorem dX3_shows_7 : decode cX3_shows 7 = .ok (.invokevirtual 25, 3) := by decide +kernel
theorem dX3_shows_10 : decode cX3_shows 10 = .ok (.ishl, 1) := by decide +kernel
theorem dX3_shows_11 : decode cX3_shows 11 = .ok (.iconst 1, 1) := by decide +kernel
theorem dX3_shows_12 : decode cX3_shows 12 = .ok (.isub, 1) := by decide +kernel
theorem dX3_shows_13 : decode cX3_shows 13 = .ok (.ireturn, 1) := by decide +kernel
theorem dX3_shows_14 : decode cX3_shows 14 = .ok (.aload_n 0, 1) := by decide +kernel
theorem dX3_shows_15 : decode cX3_shows 15 = .ok (.getfield 9, 3) := by decide +kernel
theorem dX3_shows_18 : decode cX3_shows 18 = .ok (.iconst 2, 1) := by decide +kernel
theorem dX3_shows_19 : decode cX3_shows 19 = .ok (.if_icmp .ne 8, 3) := by decide +kernel
theorem dX3_shows_22 : decode cX3_shows 22 = .ok (.bipush 7, 2) := by decide +kernel
theorem dX3_shows_24 : decode cX3_shows 24 = .ok (.goto 5, 3) := by decide +kernel
theorem dX3_shows_27 : decode cX3_shows 27 = .ok (.bipush 31, 2) := by decide +kernel
theorem dX3_shows_29 : decode cX3_shows 29 = .ok (.ireturn, 1) := by decide +kernel
theorem dX3_passesFor_0 : decode cX3_passesFor 0 = .ok (.aload_n 0, 1) := by decide +kernel
theorem dX3_passesFor_1 : decode cX3_passesFor 1 = .ok (.iload_n 2, 1) := by decide +kernel
theorem dX3_passesFor_2 : decode cX3_passesFor 2 = .ok (.iload_n 3, 1) := by decide +kernel
theorem dX3_passesFor_3 : decode cX3_passesFor 3 = .ok (.invokevirtual 29, 3) := by decide +kernel
theorem dX3_passesFor_6 : decode cX3_passesFor 6 = .ok (.istore 4, 2) := by decide +kernel
theorem dX3_passesFor_8 : decode cX3_passesFor 8 = .ok (.iload 4, 2) := by decide +kernel
theorem dX3_passesFor_10 : decode cX3_passesFor 10 = .ok (.aload_n 1, 1) := by decide +kernel
theorem dX3_passesFor_11 : decode cX3_passesFor 11 = .ok (.iload_n 2, 1) := by decide +kernel
theorem dX3_passesFor_12 : decode cX3_passesFor 12 = .ok (.iload_n 3, 1) := by decide +kernel
theorem dX3_passesFor_13 : decode cX3_passesFor 13 = .ok (.invokevirtual 29, 3) := by decide +kernel
theorem dX3_passesFor_16 : decode cX3_passesFor 16 = .ok (.if_icmp .ne 17, 3) := by decide +kernel
theorem dX3_passesFor_19 : decode cX3_passesFor 19 = .ok (.aload_n 0, 1) := by decide +kernel
theorem dX3_passesFor_20 : decode cX3_passesFor 20 = .ok (.aload_n 1, 1) := by decide +kernel
theorem dX3_passesFor_21 : decode cX3_passesFor 21 = .ok (.iload 4, 2) := by decide +kernel
theorem dX3_passesFor_23 : decode cX3_passesFor 23 = .ok (.invokevirtual 33, 3) := by decide +kernel
theorem dX3_passesFor_26 : decode cX3_passesFor 26 = .ok (.ifCond .eq 7, 3) := by decide +kernel
theorem dX3_passesFor_29 : decode cX3_passesFor 29 = .ok (.iconst 1, 1) := by decide +kernel
theorem dX3_passesFor_30 : decode cX3_passesFor 30 = .ok (.goto 4, 3) := by decide +kernel
theorem dX3_passesFor_33 : decode cX3_passesFor 33 = .ok (.iconst 0, 1) := by decide +kernel
theorem dX3_passesFor_34 : decode cX3_passesFor 34 = .ok (.ireturn, 1) := by decide +kernel
theorem dX3_isLike_0 : decode cX3_isLike 0 = .ok (.iconst 0, 1) := by decide +kernel
theorem dX3_isLike_1 : decode cX3_isLike 1 = .ok (.istore_n 3, 1) := by decide +kernel
theorem dX3_isLike_2 : decode cX3_isLike 2 = .ok (.iload_n 3, 1) := by decide +kernel
theorem dX3_isLike_3 : decode cX3_isLike 3 = .ok (.iconst 5, 1) := by decide +kernel
theorem dX3_isLike_4 : decode cX3_isLike 4 = .ok (.if_icmp .ge 35, 3) := by decide +kernel
theorem dX3_isLike_7 : decode cX3_isLike 7 = .ok (.iload_n 2, 1) := by decide +kernel
theorem dX3_isLike_8 : decode cX3_isLike 8 = .ok (.iload_n 3, 1) := by decide +kernel
theorem dX3_isLike_9 : decode cX3_isLike 9 = .ok (.ishr, 1) := by decide +kernel
theorem dX3_isLike_10 : decode cX3_isLike 10 = .ok (.iconst 1, 1) := by decide +kernel
theorem dX3_isLike_11 : decode cX3_isLike 11 = .ok (.iand, 1) := by decide +kernel
theorem dX3_isLike_12 : decode cX3_isLike 12 = .ok (.iconst 1, 1) := by decide +kernel
theorem dX3_isLike_13 : decode cX3_isLike 13 = .ok (.if_icmp .ne 20, 3) := by decide +kernel
theorem dX3_isLike_16 : decode cX3_isLike 16 = .ok (.aload_n 0, 1) := by decide +kernel
theorem dX3_isLike_17 : decode cX3_isLike 17 = .ok (.getfield 21, 3) := by decide +kernel
theorem dX3_isLike_20 : decode cX3_isLike 20 = .ok (.iload_n 3, 1) := by decide +kernel
theorem dX3_isLike_21 : decode cX3_isLike 21 = .ok (.iaload, 1) := by decide +kernel
theorem dX3_isLike_22 : decode cX3_isLike 22 = .ok (.aload_n 1, 1) := by decide +kernel
theorem dX3_isLike_23 : decode cX3_isLike 23 = .ok (.getfield 21, 3) := by decide +kernel
theorem dX3_isLike_26 : decode cX3_isLike 26 = .ok (.iload_n 3, 1) := by decide +kernel
theorem dX3_isLike_27 : decode cX3_isLike 27 = .ok (.iaload, 1) := by decide +kernel
theorem dX3_isLike_28 : decode cX3_isLike 28 = .ok (.if_icmp .eq 5, 3) := by decide +kernel
theorem dX3_isLike_31 : decode cX3_isLike 31 = .ok (.iconst 0, 1) := by decide +kernel
theorem dX3_isLike_32 : decode cX3_isLike 32 = .ok (.ireturn, 1) := by decide +kernel
theorem dX3_isLike_33 : decode cX3_isLike 33 = .ok (.iinc 3 1, 3) := by decide +kernel
theorem dX3_isLike_36 : decode cX3_isLike 36 = .ok (.goto (-34), 3) := by decide +kernel
theorem dX3_isLike_39 : decode cX3_isLike 39 = .ok (.iconst 1, 1) := by decide +kernel
theorem dX3_isLike_40 : decode cX3_isLike 40 = .ok (.ireturn, 1) := by decide +kernel
theorem dX3_fineOver_0 : decode cX3_fineOver 0 = .ok (.iload_n 2, 1) := by decide +kernel
theorem dX3_fineOver_1 : decode cX3_fineOver 1 = .ok (.ifCond .eq 11, 3) := by decide +kernel
theorem dX3_fineOver_4 : decode cX3_fineOver 4 = .ok (.aload_n 0, 1) := by decide +kernel
theorem dX3_fineOver_5 : decode cX3_fineOver 5 = .ok (.getfield 9, 3) := by decide +kernel
theorem dX3_fineOver_8 : decode cX3_fineOver 8 = .ok (.iconst 1, 1) := by decide +kernel
theorem dX3_fineOver_9 : decode cX3_fineOver 9 = .ok (.if_icmp .ne 5, 3) := by decide +kernel
theorem dX3_fineOver_12 : decode cX3_fineOver 12 = .ok (.iconst 0, 1) := by decide +kernel
theorem dX3_fineOver_13 : decode cX3_fineOver 13 = .ok (.ireturn, 1) := by decide +kernel
theorem dX3_fineOver_14 : decode cX3_fineOver 14 = .ok (.iconst 0, 1) := by decide +kernel
theorem dX3_fineOver_15 : decode cX3_fineOver 15 = .ok (.aload_n 0, 1) := by decide +kernel
theorem dX3_fineOver_16 : decode cX3_fineOver 16 = .ok (.getfield 18, 3) := by decide +kernel
theorem dX3_fineOver_19 : decode cX3_fineOver 19 = .ok (.iconst 2, 1) := by decide +kernel
theorem dX3_fineOver_20 : decode cX3_fineOver 20 = .ok (.idiv, 1) := by decide +kernel
theorem dX3_fineOver_21 : decode cX3_fineOver 21 = .ok (.iload_n 1, 1) := by decide +kernel
theorem dX3_fineOver_22 : decode cX3_fineOver 22 = .ok (.isub, 1) := by decide +kernel
theorem dX3_fineOver_23 : decode cX3_fineOver 23 = .ok (.invokestatic 37, 3) := by decide +kernel
theorem dX3_fineOver_26 : decode cX3_fineOver 26 = .ok (.ireturn, 1) := by decide +kernel
theorem dX3_feet_0 : decode cX3_feet 0 = .ok (.iconst 4, 1) := by decide +kernel
theorem dX3_feet_1 : decode cX3_feet 1 = .ok (.aload_n 0, 1) := by decide +kernel
theorem dX3_feet_2 : decode cX3_feet 2 = .ok (.getfield 21, 3) := by decide +kernel
theorem dX3_feet_5 : decode cX3_feet 5 = .ok (.iconst 3, 1) := by decide +kernel
theorem dX3_feet_6 : decode cX3_feet 6 = .ok (.iaload, 1) := by decide +kernel
theorem dX3_feet_7 : decode cX3_feet 7 = .ok (.imul, 1) := by decide +kernel
theorem dX3_feet_8 : decode cX3_feet 8 = .ok (.aload_n 0, 1) := by decide +kernel
theorem dX3_feet_9 : decode cX3_feet 9 = .ok (.getfield 21, 3) := by decide +kernel
theorem dX3_feet_12 : decode cX3_feet 12 = .ok (.iconst 4, 1) := by decide +kernel
theorem dX3_feet_13 : decode cX3_feet 13 = .ok (.iaload, 1) := by decide +kernel
theorem dX3_feet_14 : decode cX3_feet 14 = .ok (.iadd, 1) := by decide +kernel
theorem dX3_feet_15 : decode cX3_feet 15 = .ok (.ireturn, 1) := by decide +kernel
