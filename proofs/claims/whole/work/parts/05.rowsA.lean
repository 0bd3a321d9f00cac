theorem dX0_init_0 : decode cX0_init 0 = .ok (.aload_n 0, 1) := by decide +kernel
theorem dX0_init_1 : decode cX0_init 1 = .ok (.invokespecial 1, 3) := by decide +kernel
theorem dX0_init_4 : decode cX0_init 4 = .ok (.aload_n 0, 1) := by decide +kernel
theorem dX0_init_5 : decode cX0_init 5 = .ok (.bipush 12, 2) := by decide +kernel
theorem dX0_init_7 : decode cX0_init 7 = .ok (.newarray .int, 2) := by decide +kernel
theorem dX0_init_9 : decode cX0_init 9 = .ok (.putfield 9, 3) := by decide +kernel
theorem dX0_init_12 : decode cX0_init 12 = .ok (.aload_n 0, 1) := by decide +kernel
theorem dX0_init_13 : decode cX0_init 13 = .ok (.bipush 12, 2) := by decide +kernel
theorem dX0_init_15 : decode cX0_init 15 = .ok (.newarray .int, 2) := by decide +kernel
theorem dX0_init_17 : decode cX0_init 17 = .ok (.putfield 13, 3) := by decide +kernel
theorem dX0_init_20 : decode cX0_init 20 = .ok (.return_, 1) := by decide +kernel
theorem dX0_isFull_0 : decode cX0_isFull 0 = .ok (.aload_n 0, 1) := by decide +kernel
theorem dX0_isFull_1 : decode cX0_isFull 1 = .ok (.getfield 16, 3) := by decide +kernel
theorem dX0_isFull_4 : decode cX0_isFull 4 = .ok (.bipush 12, 2) := by decide +kernel
theorem dX0_isFull_6 : decode cX0_isFull 6 = .ok (.if_icmp .lt 7, 3) := by decide +kernel
theorem dX0_isFull_9 : decode cX0_isFull 9 = .ok (.iconst 1, 1) := by decide +kernel
theorem dX0_isFull_10 : decode cX0_isFull 10 = .ok (.goto 4, 3) := by decide +kernel
theorem dX0_isFull_13 : decode cX0_isFull 13 = .ok (.iconst 0, 1) := by decide +kernel
theorem dX0_isFull_14 : decode cX0_isFull 14 = .ok (.ireturn, 1) := by decide +kernel
theorem dX0_add_0 : decode cX0_add 0 = .ok (.aload_n 0, 1) := by decide +kernel
theorem dX0_add_1 : decode cX0_add 1 = .ok (.getfield 9, 3) := by decide +kernel
theorem dX0_add_4 : decode cX0_add 4 = .ok (.aload_n 0, 1) := by decide +kernel
theorem dX0_add_5 : decode cX0_add 5 = .ok (.getfield 16, 3) := by decide +kernel
theorem dX0_add_8 : decode cX0_add 8 = .ok (.iload_n 1, 1) := by decide +kernel
theorem dX0_add_9 : decode cX0_add 9 = .ok (.iastore, 1) := by decide +kernel
theorem dX0_add_10 : decode cX0_add 10 = .ok (.aload_n 0, 1) := by decide +kernel
theorem dX0_add_11 : decode cX0_add 11 = .ok (.getfield 13, 3) := by decide +kernel
theorem dX0_add_14 : decode cX0_add 14 = .ok (.aload_n 0, 1) := by decide +kernel
theorem dX0_add_15 : decode cX0_add 15 = .ok (.getfield 16, 3) := by decide +kernel
theorem dX0_add_18 : decode cX0_add 18 = .ok (.iload_n 2, 1) := by decide +kernel
theorem dX0_add_19 : decode cX0_add 19 = .ok (.iastore, 1) := by decide +kernel
theorem dX0_add_20 : decode cX0_add 20 = .ok (.aload_n 0, 1) := by decide +kernel
theorem dX0_add_21 : decode cX0_add 21 = .ok (.dup, 1) := by decide +kernel
theorem dX0_add_22 : decode cX0_add 22 = .ok (.getfield 16, 3) := by decide +kernel
theorem dX0_add_25 : decode cX0_add 25 = .ok (.iconst 1, 1) := by decide +kernel
theorem dX0_add_26 : decode cX0_add 26 = .ok (.iadd, 1) := by decide +kernel
theorem dX0_add_27 : decode cX0_add 27 = .ok (.putfield 16, 3) := by decide +kernel
theorem dX0_add_30 : decode cX0_add 30 = .ok (.return_, 1) := by decide +kernel
theorem dX0_timesRead_0 : decode cX0_timesRead 0 = .ok (.iconst 0, 1) := by decide +kernel
theorem dX0_timesRead_1 : decode cX0_timesRead 1 = .ok (.istore_n 3, 1) := by decide +kernel
theorem dX0_timesRead_2 : decode cX0_timesRead 2 = .ok (.iconst 0, 1) := by decide +kernel
theorem dX0_timesRead_3 : decode cX0_timesRead 3 = .ok (.istore 4, 2) := by decide +kernel
theorem dX0_timesRead_5 : decode cX0_timesRead 5 = .ok (.iload 4, 2) := by decide +kernel
theorem dX0_timesRead_7 : decode cX0_timesRead 7 = .ok (.aload_n 0, 1) := by decide +kernel
theorem dX0_timesRead_8 : decode cX0_timesRead 8 = .ok (.getfield 16, 3) := by decide +kernel
theorem dX0_timesRead_11 : decode cX0_timesRead 11 = .ok (.if_icmp .ge 34, 3) := by decide +kernel
theorem dX0_timesRead_14 : decode cX0_timesRead 14 = .ok (.aload_n 0, 1) := by decide +kernel
theorem dX0_timesRead_15 : decode cX0_timesRead 15 = .ok (.getfield 9, 3) := by decide +kernel
theorem dX0_timesRead_18 : decode cX0_timesRead 18 = .ok (.iload 4, 2) := by decide +kernel
theorem dX0_timesRead_20 : decode cX0_timesRead 20 = .ok (.iaload, 1) := by decide +kernel
theorem dX0_timesRead_21 : decode cX0_timesRead 21 = .ok (.iload_n 1, 1) := by decide +kernel
theorem dX0_timesRead_22 : decode cX0_timesRead 22 = .ok (.if_icmp .ne 17, 3) := by decide +kernel
theorem dX0_timesRead_25 : decode cX0_timesRead 25 = .ok (.aload_n 0, 1) := by decide +kernel
theorem dX0_timesRead_26 : decode cX0_timesRead 26 = .ok (.getfield 13, 3) := by decide +kernel
theorem dX0_timesRead_29 : decode cX0_timesRead 29 = .ok (.iload 4, 2) := by decide +kernel
theorem dX0_timesRead_31 : decode cX0_timesRead 31 = .ok (.iaload, 1) := by decide +kernel
theorem dX0_timesRead_32 : decode cX0_timesRead 32 = .ok (.iload_n 2, 1) := by decide +kernel
theorem dX0_timesRead_33 : decode cX0_timesRead 33 = .ok (.if_icmp .ne 6, 3) := by decide +kernel
theorem dX0_timesRead_36 : decode cX0_timesRead 36 = .ok (.iinc 3 1, 3) := by decide +kernel
theorem dX0_timesRead_39 : decode cX0_timesRead 39 = .ok (.iinc 4 1, 3) := by decide +kernel
theorem dX0_timesRead_42 : decode cX0_timesRead 42 = .ok (.goto (-37), 3) := by decide +kernel
theorem dX0_timesRead_45 : decode cX0_timesRead 45 = .ok (.iload_n 3, 1) := by decide +kernel
theorem dX0_timesRead_46 : decode cX0_timesRead 46 = .ok (.ireturn, 1) := by decide +kernel
theorem dX1_init_0 : decode cX1_init 0 = .ok (.aload_n 0, 1) := by decide +kernel
theorem dX1_init_1 : decode cX1_init 1 = .ok (.invokespecial 1, 3) := by decide +kernel
theorem dX1_init_4 : decode cX1_init 4 = .ok (.aload_n 0, 1) := by decide +kernel
theorem dX1_init_5 : decode cX1_init 5 = .ok (.bipush 30, 2) := by decide +kernel
theorem dX1_init_7 : decode cX1_init 7 = .ok (.newarray .int, 2) := by decide +kernel
theorem dX1_init_9 : decode cX1_init 9 = .ok (.putfield 9, 3) := by decide +kernel
theorem dX1_init_12 : decode cX1_init 12 = .ok (.aload_n 0, 1) := by decide +kernel
theorem dX1_init_13 : decode cX1_init 13 = .ok (.bipush 30, 2) := by decide +kernel
theorem dX1_init_15 : decode cX1_init 15 = .ok (.newarray .int, 2) := by decide +kernel
theorem dX1_init_17 : decode cX1_init 17 = .ok (.putfield 13, 3) := by decide +kernel
theorem dX1_init_20 : decode cX1_init 20 = .ok (.aload_n 0, 1) := by decide +kernel
theorem dX1_init_21 : decode cX1_init 21 = .ok (.bipush 30, 2) := by decide +kernel
theorem dX1_init_23 : decode cX1_init 23 = .ok (.newarray .int, 2) := by decide +kernel
theorem dX1_init_25 : decode cX1_init 25 = .ok (.putfield 16, 3) := by decide +kernel
theorem dX1_init_28 : decode cX1_init 28 = .ok (.aload_n 0, 1) := by decide +kernel
theorem dX1_init_29 : decode cX1_init 29 = .ok (.bipush 30, 2) := by decide +kernel
theorem dX1_init_31 : decode cX1_init 31 = .ok (.newarray .int, 2) := by decide +kernel
theorem dX1_init_33 : decode cX1_init 33 = .ok (.putfield 19, 3) := by decide +kernel
theorem dX1_init_36 : decode cX1_init 36 = .ok (.return_, 1) := by decide +kernel
theorem dX1_isNumber_0 : decode cX1_isNumber 0 = .ok (.iload_n 0, 1) := by decide +kernel
theorem dX1_isNumber_1 : decode cX1_isNumber 1 = .ok (.ifCond .lt 13, 3) := by decide +kernel
theorem dX1_isNumber_4 : decode cX1_isNumber 4 = .ok (.iload_n 0, 1) := by decide +kernel
theorem dX1_isNumber_5 : decode cX1_isNumber 5 = .ok (.bipush 6, 2) := by decide +kernel
theorem dX1_isNumber_7 : decode cX1_isNumber 7 = .ok (.if_icmp .ge 7, 3) := by decide +kernel
theorem dX1_isNumber_10 : decode cX1_isNumber 10 = .ok (.iconst 1, 1) := by decide +kernel
theorem dX1_isNumber_11 : decode cX1_isNumber 11 = .ok (.goto 4, 3) := by decide +kernel
theorem dX1_isNumber_14 : decode cX1_isNumber 14 = .ok (.iconst 0, 1) := by decide +kernel
theorem dX1_isNumber_15 : decode cX1_isNumber 15 = .ok (.ireturn, 1) := by decide +kernel
theorem dX1_isFull_0 : decode cX1_isFull 0 = .ok (.aload_n 0, 1) := by decide +kernel
theorem dX1_isFull_1 : decode cX1_isFull 1 = .ok (.getfield 22, 3) := by decide +kernel
theorem dX1_isFull_4 : decode cX1_isFull 4 = .ok (.bipush 30, 2) := by decide +kernel
theorem dX1_isFull_6 : decode cX1_isFull 6 = .ok (.if_icmp .lt 7, 3) := by decide +kernel
theorem dX1_isFull_9 : decode cX1_isFull 9 = .ok (.iconst 1, 1) := by decide +kernel
theorem dX1_isFull_10 : decode cX1_isFull 10 = .ok (.goto 4, 3) := by decide +kernel
theorem dX1_isFull_13 : decode cX1_isFull 13 = .ok (.iconst 0, 1) := by decide +kernel
theorem dX1_isFull_14 : decode cX1_isFull 14 = .ok (.ireturn, 1) := by decide +kernel
theorem dX1_add_0 : decode cX1_add 0 = .ok (.aload_n 0, 1) := by decide +kernel
theorem dX1_add_1 : decode cX1_add 1 = .ok (.getfield 9, 3) := by decide +kernel
theorem dX1_add_4 : decode cX1_add 4 = .ok (.aload_n 0, 1) := by decide +kernel
theorem dX1_add_5 : decode cX1_add 5 = .ok (.getfield 22, 3) := by decide +kernel
theorem dX1_add_8 : decode cX1_add 8 = .ok (.iload_n 1, 1) := by decide +kernel
theorem dX1_add_9 : decode cX1_add 9 = .ok (.iastore, 1) := by decide +kernel
theorem dX1_add_10 : decode cX1_add 10 = .ok (.aload_n 0, 1) := by decide +kernel
theorem dX1_add_11 : decode cX1_add 11 = .ok (.getfield 13, 3) := by decide +kernel
theorem dX1_add_14 : decode cX1_add 14 = .ok (.aload_n 0, 1) := by decide +kernel
theorem dX1_add_15 : decode cX1_add 15 = .ok (.getfield 22, 3) := by decide +kernel
theorem dX1_add_18 : decode cX1_add 18 = .ok (.iload_n 2, 1) := by decide +kernel
theorem dX1_add_19 : decode cX1_add 19 = .ok (.iastore, 1) := by decide +kernel
theorem dX1_add_20 : decode cX1_add 20 = .ok (.aload_n 0, 1) := by decide +kernel
theorem dX1_add_21 : decode cX1_add 21 = .ok (.getfield 16, 3) := by decide +kernel
theorem dX1_add_24 : decode cX1_add 24 = .ok (.aload_n 0, 1) := by decide +kernel
theorem dX1_add_25 : decode cX1_add 25 = .ok (.getfield 22, 3) := by decide +kernel
theorem dX1_add_28 : decode cX1_add 28 = .ok (.iload_n 3, 1) := by decide +kernel
theorem dX1_add_29 : decode cX1_add 29 = .ok (.iastore, 1) := by decide +kernel
theorem dX1_add_30 : decode cX1_add 30 = .ok (.aload_n 0, 1) := by decide +kernel
theorem dX1_add_31 : decode cX1_add 31 = .ok (.getfield 19, 3) := by decide +kernel
theorem dX1_add_34 : decode cX1_add 34 = .ok (.aload_n 0, 1) := by decide +kernel
theorem dX1_add_35 : decode cX1_add 35 = .ok (.getfield 22, 3) := by decide +kernel
theorem dX1_add_38 : decode cX1_add 38 = .ok (.iload 4, 2) := by decide +kernel
theorem dX1_add_40 : decode cX1_add 40 = .ok (.iastore, 1) := by decide +kernel
theorem dX1_add_41 : decode cX1_add 41 = .ok (.aload_n 0, 1) := by decide +kernel
theorem dX1_add_42 : decode cX1_add 42 = .ok (.dup, 1) := by decide +kernel
theorem dX1_add_43 : decode cX1_add 43 = .ok (.getfield 22, 3) := by decide +kernel
theorem dX1_add_46 : decode cX1_add 46 = .ok (.iconst 1, 1) := by decide +kernel
theorem dX1_add_47 : decode cX1_add 47 = .ok (.iadd, 1) := by decide +kernel
theorem dX1_add_48 : decode cX1_add 48 = .ok (.putfield 22, 3) := by decide +kernel
theorem dX1_add_51 : decode cX1_add 51 = .ok (.return_, 1) := by decide +kernel
theorem dX1_cellsIn_0 : decode cX1_cellsIn 0 = .ok (.iconst 0, 1) := by decide +kernel
theorem dX1_cellsIn_1 : decode cX1_cellsIn 1 = .ok (.istore 4, 2) := by decide +kernel
theorem dX1_cellsIn_3 : decode cX1_cellsIn 3 = .ok (.iconst 0, 1) := by decide +kernel
theorem dX1_cellsIn_4 : decode cX1_cellsIn 4 = .ok (.istore 5, 2) := by decide +kernel
theorem dX1_cellsIn_6 : decode cX1_cellsIn 6 = .ok (.iload 5, 2) := by decide +kernel
theorem dX1_cellsIn_8 : decode cX1_cellsIn 8 = .ok (.aload_n 0, 1) := by decide +kernel
theorem dX1_cellsIn_9 : decode cX1_cellsIn 9 = .ok (.getfield 22, 3) := by decide +kernel
theorem dX1_cellsIn_12 : decode cX1_cellsIn 12 = .ok (.if_icmp .ge 54, 3) := by decide +kernel
theorem dX1_cellsIn_15 : decode cX1_cellsIn 15 = .ok (.aload_n 0, 1) := by decide +kernel
theorem dX1_cellsIn_16 : decode cX1_cellsIn 16 = .ok (.getfield 9, 3) := by decide +kernel
theorem dX1_cellsIn_19 : decode cX1_cellsIn 19 = .ok (.iload 5, 2) := by decide +kernel
theorem dX1_cellsIn_21 : decode cX1_cellsIn 21 = .ok (.iaload, 1) := by decide +kernel
theorem dX1_cellsIn_22 : decode cX1_cellsIn 22 = .ok (.iload_n 1, 1) := by decide +kernel
theorem dX1_cellsIn_23 : decode cX1_cellsIn 23 = .ok (.if_icmp .ne 37, 3) := by decide +kernel
theorem dX1_cellsIn_26 : decode cX1_cellsIn 26 = .ok (.aload_n 0, 1) := by decide +kernel
theorem dX1_cellsIn_27 : decode cX1_cellsIn 27 = .ok (.getfield 13, 3) := by decide +kernel
theorem dX1_cellsIn_30 : decode cX1_cellsIn 30 = .ok (.iload 5, 2) := by decide +kernel
theorem dX1_cellsIn_32 : decode cX1_cellsIn 32 = .ok (.iaload, 1) := by decide +kernel
theorem dX1_cellsIn_33 : decode cX1_cellsIn 33 = .ok (.iload_n 2, 1) := by decide +kernel
theorem dX1_cellsIn_34 : decode cX1_cellsIn 34 = .ok (.if_icmp .ne 26, 3) := by decide +kernel
theorem dX1_cellsIn_37 : decode cX1_cellsIn 37 = .ok (.aload_n 0, 1) := by decide +kernel
theorem dX1_cellsIn_38 : decode cX1_cellsIn 38 = .ok (.getfield 16, 3) := by decide +kernel
theorem dX1_cellsIn_41 : decode cX1_cellsIn 41 = .ok (.iload 5, 2) := by decide +kernel
theorem dX1_cellsIn_43 : decode cX1_cellsIn 43 = .ok (.iaload, 1) := by decide +kernel
theorem dX1_cellsIn_44 : decode cX1_cellsIn 44 = .ok (.iload_n 3, 1) := by decide +kernel
theorem dX1_cellsIn_45 : decode cX1_cellsIn 45 = .ok (.if_icmp .ne 15, 3) := by decide +kernel
theorem dX1_cellsIn_48 : decode cX1_cellsIn 48 = .ok (.iload 4, 2) := by decide +kernel
theorem dX1_cellsIn_50 : decode cX1_cellsIn 50 = .ok (.aload_n 0, 1) := by decide +kernel
theorem dX1_cellsIn_51 : decode cX1_cellsIn 51 = .ok (.getfield 19, 3) := by decide +kernel
theorem dX1_cellsIn_54 : decode cX1_cellsIn 54 = .ok (.iload 5, 2) := by decide +kernel
theorem dX1_cellsIn_56 : decode cX1_cellsIn 56 = .ok (.iaload, 1) := by decide +kernel
theorem dX1_cellsIn_57 : decode cX1_cellsIn 57 = .ok (.ior, 1) := by decide +kernel
theorem dX1_cellsIn_58 : decode cX1_cellsIn 58 = .ok (.istore 4, 2) := by decide +kernel
theorem dX1_cellsIn_60 : decode cX1_cellsIn 60 = .ok (.iinc 5 1, 3) := by decide +kernel
theorem dX1_cellsIn_63 : decode cX1_cellsIn 63 = .ok (.goto (-57), 3) := by decide +kernel
theorem dX1_cellsIn_66 : decode cX1_cellsIn 66 = .ok (.iload 4, 2) := by decide +kernel
theorem dX1_cellsIn_68 : decode cX1_cellsIn 68 = .ok (.ireturn, 1) := by decide +kernel
theorem dX2_init_0 : decode cX2_init 0 = .ok (.aload_n 0, 1) := by decide +kernel
theorem dX2_init_1 : decode cX2_init 1 = .ok (.invokespecial 3, 3) := by decide +kernel
theorem dX2_init_4 : decode cX2_init 4 = .ok (.aload_n 0, 1) := by decide +kernel
theorem dX2_init_5 : decode cX2_init 5 = .ok (.iconst 4, 1) := by decide +kernel
theorem dX2_init_6 : decode cX2_init 6 = .ok (.bipush 10, 2) := by decide +kernel
theorem dX2_init_8 : decode cX2_init 8 = .ok (.multianewarray 9 2, 4) := by decide +kernel
theorem dX2_init_12 : decode cX2_init 12 = .ok (.putfield 11, 3) := by decide +kernel
theorem dX2_init_15 : decode cX2_init 15 = .ok (.aload_n 0, 1) := by decide +kernel
theorem dX2_init_16 : decode cX2_init 16 = .ok (.iconst 3, 1) := by decide +kernel
theorem dX2_init_17 : decode cX2_init 17 = .ok (.newarray .int, 2) := by decide +kernel
theorem dX2_init_19 : decode cX2_init 19 = .ok (.putfield 16, 3) := by decide +kernel
theorem dX2_init_22 : decode cX2_init 22 = .ok (.aload_n 0, 1) := by decide +kernel
theorem dX2_init_23 : decode cX2_init 23 = .ok (.iconst 3, 1) := by decide +kernel
theorem dX2_init_24 : decode cX2_init 24 = .ok (.newarray .int, 2) := by decide +kernel
theorem dX2_init_26 : decode cX2_init 26 = .ok (.putfield 20, 3) := by decide +kernel
theorem dX2_init_29 : decode cX2_init 29 = .ok (.aload_n 0, 1) := by decide +kernel
theorem dX2_init_30 : decode cX2_init 30 = .ok (.iconst 3, 1) := by decide +kernel
theorem dX2_init_31 : decode cX2_init 31 = .ok (.newarray .int, 2) := by decide +kernel
theorem dX2_init_33 : decode cX2_init 33 = .ok (.putfield 23, 3) := by decide +kernel
theorem dX2_init_36 : decode cX2_init 36 = .ok (.return_, 1) := by decide +kernel
theorem dX2_known_0 : decode cX2_known 0 = .ok (.aload_n 0, 1) := by decide +kernel
theorem dX2_known_1 : decode cX2_known 1 = .ok (.getfield 11, 3) := by decide +kernel
theorem dX2_known_4 : decode cX2_known 4 = .ok (.iconst 0, 1) := by decide +kernel
theorem dX2_known_5 : decode cX2_known 5 = .ok (.aaload, 1) := by decide +kernel
theorem dX2_known_6 : decode cX2_known 6 = .ok (.iload_n 1, 1) := by decide +kernel
theorem dX2_known_7 : decode cX2_known 7 = .ok (.iaload, 1) := by decide +kernel
theorem dX2_known_8 : decode cX2_known 8 = .ok (.aload_n 0, 1) := by decide +kernel
theorem dX2_known_9 : decode cX2_known 9 = .ok (.getfield 11, 3) := by decide +kernel
theorem dX2_known_12 : decode cX2_known 12 = .ok (.iconst 1, 1) := by decide +kernel
theorem dX2_known_13 : decode cX2_known 13 = .ok (.aaload, 1) := by decide +kernel
theorem dX2_known_14 : decode cX2_known 14 = .ok (.iload_n 1, 1) := by decide +kernel
theorem dX2_known_15 : decode cX2_known 15 = .ok (.iaload, 1) := by decide +kernel
theorem dX2_known_16 : decode cX2_known 16 = .ok (.ior, 1) := by decide +kernel
theorem dX2_known_17 : decode cX2_known 17 = .ok (.aload_n 0, 1) := by decide +kernel
theorem dX2_known_18 : decode cX2_known 18 = .ok (.getfield 11, 3) := by decide +kernel
theorem dX2_known_21 : decode cX2_known 21 = .ok (.iconst 2, 1) := by decide +kernel
theorem dX2_known_22 : decode cX2_known 22 = .ok (.aaload, 1) := by decide +kernel
theorem dX2_known_23 : decode cX2_known 23 = .ok (.iload_n 1, 1) := by decide +kernel
theorem dX2_known_24 : decode cX2_known 24 = .ok (.iaload, 1) := by decide +kernel
theorem dX2_known_25 : decode cX2_known 25 = .ok (.ior, 1) := by decide +kernel
theorem dX2_known_26 : decode cX2_known 26 = .ok (.aload_n 0, 1) := by decide +kernel
theorem dX2_known_27 : decode cX2_known 27 = .ok (.getfield 11, 3) := by decide +kernel
theorem dX2_known_30 : decode cX2_known 30 = .ok (.iconst 3, 1) := by decide +kernel
theorem dX2_known_31 : decode cX2_known 31 = .ok (.aaload, 1) := by decide +kernel
theorem dX2_known_32 : decode cX2_known 32 = .ok (.iload_n 1, 1) := by decide +kernel
theorem dX2_known_33 : decode cX2_known 33 = .ok (.iaload, 1) := by decide +kernel
theorem dX2_known_34 : decode cX2_known 34 = .ok (.ior, 1) := by decide +kernel
theorem dX2_known_35 : decode cX2_known 35 = .ok (.ireturn, 1) := by decide +kernel
set_option maxRecDepth 20000 in
theorem ggX2_show_X2_known : GoodIn wsX2_show wsX2_known := goodIn_r _ [6, 1, 14, 15, 16, 17, 18] (by decide +kernel) (by decide +kernel)
set_option maxRecDepth 20000 in
theorem gX2_show_X2_known : GoodIn wsX2_show (wsV RX2 26 RX2 yX2_known wsX2_known) := goodIn_app (goodIn_of _ (by decide +kernel)) ggX2_show_X2_known
set_option maxRecDepth 20000 in
theorem ggX2_show_J6_bitCount_0f7a4 : GoodIn wsX2_show wsJ6_bitCount_0f7a4 := goodIn_r _ [10, 11, 12, 13] (by decide +kernel) (by decide +kernel)
set_option maxRecDepth 20000 in
theorem gX2_show_J6_bitCount_0f7a4 : GoodIn wsX2_show (va_wsS RX2 30 yJ6_bitCount_0f7a4 wsJ6_bitCount_0f7a4) := goodIn_app (goodIn_of _ (by decide +kernel)) ggX2_show_J6_bitCount_0f7a4
theorem dX2_show_0 : decode cX2_show 0 = .ok (.iload_n 3, 1) := by decide +kernel
theorem dX2_show_1 : decode cX2_show 1 = .ok (.iconst 4, 1) := by decide +kernel
theorem dX2_show_2 : decode cX2_show 2 = .ok (.if_icmp .ne 13, 3) := by decide +kernel
theorem dX2_show_5 : decode cX2_show 5 = .ok (.aload_n 0, 1) := by decide +kernel
theorem dX2_show_6 : decode cX2_show 6 = .ok (.iload_n 1, 1) := by decide +kernel
theorem dX2_show_7 : decode cX2_show 7 = .ok (.invokevirtual 26, 3) := by decide +kernel
theorem dX2_show_10 : decode cX2_show 10 = .ok (.iconst (-1), 1) := by decide +kernel
theorem dX2_show_11 : decode cX2_show 11 = .ok (.ixor, 1) := by decide +kernel
theorem dX2_show_12 : decode cX2_show 12 = .ok (.goto 11, 3) := by decide +kernel
theorem dX2_show_15 : decode cX2_show 15 = .ok (.aload_n 0, 1) := by decide +kernel
theorem dX2_show_16 : decode cX2_show 16 = .ok (.getfield 11, 3) := by decide +kernel
theorem dX2_show_19 : decode cX2_show 19 = .ok (.iload_n 3, 1) := by decide +kernel
theorem dX2_show_20 : decode cX2_show 20 = .ok (.aaload, 1) := by decide +kernel
theorem dX2_show_21 : decode cX2_show 21 = .ok (.iload_n 1, 1) := by decide +kernel
theorem dX2_show_22 : decode cX2_show 22 = .ok (.iaload, 1) := by decide +kernel
theorem dX2_show_23 : decode cX2_show 23 = .ok (.istore 4, 2) := by decide +kernel
theorem dX2_show_25 : decode cX2_show 25 = .ok (.iconst 0, 1) := by decide +kernel
theorem dX2_show_26 : decode cX2_show 26 = .ok (.istore 5, 2) := by decide +kernel
theorem dX2_show_28 : decode cX2_show 28 = .ok (.iload 5, 2) := by decide +kernel
theorem dX2_show_30 : decode cX2_show 30 = .ok (.iconst 3, 1) := by decide +kernel
theorem dX2_show_31 : decode cX2_show 31 = .ok (.if_icmp .gt 24, 3) := by decide +kernel
theorem dX2_show_34 : decode cX2_show 34 = .ok (.aload_n 0, 1) := by decide +kernel
theorem dX2_show_35 : decode cX2_show 35 = .ok (.getfield 11, 3) := by decide +kernel
theorem dX2_show_38 : decode cX2_show 38 = .ok (.iload 5, 2) := by decide +kernel
theorem dX2_show_40 : decode cX2_show 40 = .ok (.aaload, 1) := by decide +kernel
theorem dX2_show_41 : decode cX2_show 41 = .ok (.iload_n 1, 1) := by decide +kernel
theorem dX2_show_42 : decode cX2_show 42 = .ok (.dup2, 1) := by decide +kernel
theorem dX2_show_43 : decode cX2_show 43 = .ok (.iaload, 1) := by decide +kernel
theorem dX2_show_44 : decode cX2_show 44 = .ok (.iload_n 2, 1) := by decide +kernel
theorem dX2_show_45 : decode cX2_show 45 = .ok (.iconst (-1), 1) := by decide +kernel
theorem dX2_show_46 : decode cX2_show 46 = .ok (.ixor, 1) := by decide +kernel
theorem dX2_show_47 : decode cX2_show 47 = .ok (.iand, 1) := by decide +kernel
theorem dX2_show_48 : decode cX2_show 48 = .ok (.iastore, 1) := by decide +kernel
theorem dX2_show_49 : decode cX2_show 49 = .ok (.iinc 5 1, 3) := by decide +kernel
theorem dX2_show_52 : decode cX2_show 52 = .ok (.goto (-24), 3) := by decide +kernel
theorem dX2_show_55 : decode cX2_show 55 = .ok (.iload_n 3, 1) := by decide +kernel
theorem dX2_show_56 : decode cX2_show 56 = .ok (.iconst 4, 1) := by decide +kernel
theorem dX2_show_57 : decode cX2_show 57 = .ok (.if_icmp .eq 15, 3) := by decide +kernel
theorem dX2_show_60 : decode cX2_show 60 = .ok (.aload_n 0, 1) := by decide +kernel
theorem dX2_show_61 : decode cX2_show 61 = .ok (.getfield 11, 3) := by decide +kernel
theorem dX2_show_64 : decode cX2_show 64 = .ok (.iload_n 3, 1) := by decide +kernel
theorem dX2_show_65 : decode cX2_show 65 = .ok (.aaload, 1) := by decide +kernel
theorem dX2_show_66 : decode cX2_show 66 = .ok (.iload_n 1, 1) := by decide +kernel
theorem dX2_show_67 : decode cX2_show 67 = .ok (.dup2, 1) := by decide +kernel
theorem dX2_show_68 : decode cX2_show 68 = .ok (.iaload, 1) := by decide +kernel
theorem dX2_show_69 : decode cX2_show 69 = .ok (.iload_n 2, 1) := by decide +kernel
theorem dX2_show_70 : decode cX2_show 70 = .ok (.ior, 1) := by decide +kernel
theorem dX2_show_71 : decode cX2_show 71 = .ok (.iastore, 1) := by decide +kernel
theorem dX2_show_72 : decode cX2_show 72 = .ok (.iload_n 2, 1) := by decide +kernel
theorem dX2_show_73 : decode cX2_show 73 = .ok (.iload 4, 2) := by decide +kernel
theorem dX2_show_75 : decode cX2_show 75 = .ok (.iconst (-1), 1) := by decide +kernel
theorem dX2_show_76 : decode cX2_show 76 = .ok (.ixor, 1) := by decide +kernel
theorem dX2_show_77 : decode cX2_show 77 = .ok (.iand, 1) := by decide +kernel
theorem dX2_show_78 : decode cX2_show 78 = .ok (.invokestatic 30, 3) := by decide +kernel
theorem dX2_show_81 : decode cX2_show 81 = .ok (.ireturn, 1) := by decide +kernel
theorem dX2_valueAt_0 : decode cX2_valueAt 0 = .ok (.iconst 0, 1) := by decide +kernel
theorem dX2_valueAt_1 : decode cX2_valueAt 1 = .ok (.istore_n 3, 1) := by decide +kernel
theorem dX2_valueAt_2 : decode cX2_valueAt 2 = .ok (.iload_n 3, 1) := by decide +kernel
theorem dX2_valueAt_3 : decode cX2_valueAt 3 = .ok (.iconst 3, 1) := by decide +kernel
theorem dX2_valueAt_4 : decode cX2_valueAt 4 = .ok (.if_icmp .gt 26, 3) := by decide +kernel
theorem dX2_valueAt_7 : decode cX2_valueAt 7 = .ok (.aload_n 0, 1) := by decide +kernel
theorem dX2_valueAt_8 : decode cX2_valueAt 8 = .ok (.getfield 11, 3) := by decide +kernel
theorem dX2_valueAt_11 : decode cX2_valueAt 11 = .ok (.iload_n 3, 1) := by decide +kernel
theorem dX2_valueAt_12 : decode cX2_valueAt 12 = .ok (.aaload, 1) := by decide +kernel
theorem dX2_valueAt_13 : decode cX2_valueAt 13 = .ok (.iload_n 1, 1) := by decide +kernel
theorem dX2_valueAt_14 : decode cX2_valueAt 14 = .ok (.iaload, 1) := by decide +kernel
theorem dX2_valueAt_15 : decode cX2_valueAt 15 = .ok (.iload_n 2, 1) := by decide +kernel
theorem dX2_valueAt_16 : decode cX2_valueAt 16 = .ok (.ishr, 1) := by decide +kernel
theorem dX2_valueAt_17 : decode cX2_valueAt 17 = .ok (.iconst 1, 1) := by decide +kernel
theorem dX2_valueAt_18 : decode cX2_valueAt 18 = .ok (.iand, 1) := by decide +kernel
theorem dX2_valueAt_19 : decode cX2_valueAt 19 = .ok (.ifCond .eq 5, 3) := by decide +kernel
theorem dX2_valueAt_22 : decode cX2_valueAt 22 = .ok (.iload_n 3, 1) := by decide +kernel
theorem dX2_valueAt_23 : decode cX2_valueAt 23 = .ok (.ireturn, 1) := by decide +kernel
theorem dX2_valueAt_24 : decode cX2_valueAt 24 = .ok (.iinc 3 1, 3) := by decide +kernel
theorem dX2_valueAt_27 : decode cX2_valueAt 27 = .ok (.goto (-25), 3) := by decide +kernel
theorem dX2_valueAt_30 : decode cX2_valueAt 30 = .ok (.iconst 4, 1) := by decide +kernel
theorem dX2_valueAt_31 : decode cX2_valueAt 31 = .ok (.ireturn, 1) := by decide +kernel
theorem dX2_shows_0 : decode cX2_shows 0 = .ok (.iconst 0, 1) := by decide +kernel
theorem dX2_shows_1 : decode cX2_shows 1 = .ok (.istore_n 2, 1) := by decide +kernel
theorem dX2_shows_2 : decode cX2_shows 2 = .ok (.iconst 0, 1) := by decide +kernel
theorem dX2_shows_3 : decode cX2_shows 3 = .ok (.istore_n 3, 1) := by decide +kernel
theorem dX2_shows_4 : decode cX2_shows 4 = .ok (.iload_n 3, 1) := by decide +kernel
theorem dX2_shows_5 : decode cX2_shows 5 = .ok (.bipush 10, 2) := by decide +kernel
theorem dX2_shows_7 : decode cX2_shows 7 = .ok (.if_icmp .ge 20, 3) := by decide +kernel
theorem dX2_shows_10 : decode cX2_shows 10 = .ok (.iload_n 2, 1) := by decide +kernel
theorem dX2_shows_11 : decode cX2_shows 11 = .ok (.aload_n 0, 1) := by decide +kernel
theorem dX2_shows_12 : decode cX2_shows 12 = .ok (.getfield 11, 3) := by decide +kernel
theorem dX2_shows_15 : decode cX2_shows 15 = .ok (.iload_n 1, 1) := by decide +kernel
theorem dX2_shows_16 : decode cX2_shows 16 = .ok (.aaload, 1) := by decide +kernel
theorem dX2_shows_17 : decode cX2_shows 17 = .ok (.iload_n 3, 1) := by decide +kernel
theorem dX2_shows_18 : decode cX2_shows 18 = .ok (.iaload, 1) := by decide +kernel
theorem dX2_shows_19 : decode cX2_shows 19 = .ok (.ior, 1) := by decide +kernel
theorem dX2_shows_20 : decode cX2_shows 20 = .ok (.istore_n 2, 1) := by decide +kernel
theorem dX2_shows_21 : decode cX2_shows 21 = .ok (.iinc 3 1, 3) := by decide +kernel
theorem dX2_shows_24 : decode cX2_shows 24 = .ok (.goto (-20), 3) := by decide +kernel
theorem dX2_shows_27 : decode cX2_shows 27 = .ok (.iload_n 2, 1) := by decide +kernel
theorem dX2_shows_28 : decode cX2_shows 28 = .ok (.ifCond .eq 7, 3) := by decide +kernel
theorem dX2_shows_31 : decode cX2_shows 31 = .ok (.iconst 1, 1) := by decide +kernel
theorem dX2_shows_32 : decode cX2_shows 32 = .ok (.goto 4, 3) := by decide +kernel
theorem dX2_shows_35 : decode cX2_shows 35 = .ok (.iconst 0, 1) := by decide +kernel
theorem dX2_shows_36 : decode cX2_shows 36 = .ok (.ireturn, 1) := by decide +kernel
set_option maxRecDepth 20000 in
theorem ggX2_sizeKnown_X2_known : GoodIn wsX2_sizeKnown wsX2_known := goodIn_r _ [5, 6, 14, 15, 16, 17, 18] (by decide +kernel) (by decide +kernel)
set_option maxRecDepth 20000 in
theorem gX2_sizeKnown_X2_known : GoodIn wsX2_sizeKnown (wsV RX2 26 RX2 yX2_known wsX2_known) := goodIn_app (goodIn_of _ (by decide +kernel)) ggX2_sizeKnown_X2_known
set_option maxRecDepth 20000 in
theorem ggX2_sizeKnown_J6_bitCount_0f7a4 : GoodIn wsX2_sizeKnown wsJ6_bitCount_0f7a4 := goodIn_r _ [10, 11, 12, 13] (by decide +kernel) (by decide +kernel)
set_option maxRecDepth 20000 in
theorem gX2_sizeKnown_J6_bitCount_0f7a4 : GoodIn wsX2_sizeKnown (va_wsS RX2 30 yJ6_bitCount_0f7a4 wsJ6_bitCount_0f7a4) := goodIn_app (goodIn_of _ (by decide +kernel)) ggX2_sizeKnown_J6_bitCount_0f7a4
theorem dX2_sizeKnown_0 : decode cX2_sizeKnown 0 = .ok (.iconst 0, 1) := by decide +kernel
theorem dX2_sizeKnown_1 : decode cX2_sizeKnown 1 = .ok (.istore_n 1, 1) := by decide +kernel
theorem dX2_sizeKnown_2 : decode cX2_sizeKnown 2 = .ok (.iconst 0, 1) := by decide +kernel
theorem dX2_sizeKnown_3 : decode cX2_sizeKnown 3 = .ok (.istore_n 2, 1) := by decide +kernel
theorem dX2_sizeKnown_4 : decode cX2_sizeKnown 4 = .ok (.iload_n 2, 1) := by decide +kernel
theorem dX2_sizeKnown_5 : decode cX2_sizeKnown 5 = .ok (.bipush 10, 2) := by decide +kernel
theorem dX2_sizeKnown_7 : decode cX2_sizeKnown 7 = .ok (.if_icmp .ge 20, 3) := by decide +kernel
theorem dX2_sizeKnown_10 : decode cX2_sizeKnown 10 = .ok (.iload_n 1, 1) := by decide +kernel
theorem dX2_sizeKnown_11 : decode cX2_sizeKnown 11 = .ok (.aload_n 0, 1) := by decide +kernel
theorem dX2_sizeKnown_12 : decode cX2_sizeKnown 12 = .ok (.iload_n 2, 1) := by decide +kernel
theorem dX2_sizeKnown_13 : decode cX2_sizeKnown 13 = .ok (.invokevirtual 26, 3) := by decide +kernel
theorem dX2_sizeKnown_16 : decode cX2_sizeKnown 16 = .ok (.invokestatic 30, 3) := by decide +kernel
theorem dX2_sizeKnown_19 : decode cX2_sizeKnown 19 = .ok (.iadd, 1) := by decide +kernel
theorem dX2_sizeKnown_20 : decode cX2_sizeKnown 20 = .ok (.istore_n 1, 1) := by decide +kernel
theorem dX2_sizeKnown_21 : decode cX2_sizeKnown 21 = .ok (.iinc 2 1, 3) := by decide +kernel
theorem dX2_sizeKnown_24 : decode cX2_sizeKnown 24 = .ok (.goto (-20), 3) := by decide +kernel
theorem dX2_sizeKnown_27 : decode cX2_sizeKnown 27 = .ok (.iload_n 1, 1) := by decide +kernel
theorem dX2_sizeKnown_28 : decode cX2_sizeKnown 28 = .ok (.ireturn, 1) := by decide +kernel
theorem dX2_isFull_0 : decode cX2_isFull 0 = .ok (.aload_n 0, 1) := by decide +kernel
theorem dX2_isFull_1 : decode cX2_isFull 1 = .ok (.getfield 35, 3) := by decide +kernel
theorem dX2_isFull_4 : decode cX2_isFull 4 = .ok (.iconst 3, 1) := by decide +kernel
theorem dX2_isFull_5 : decode cX2_isFull 5 = .ok (.if_icmp .lt 7, 3) := by decide +kernel
theorem dX2_isFull_8 : decode cX2_isFull 8 = .ok (.iconst 1, 1) := by decide +kernel
theorem dX2_isFull_9 : decode cX2_isFull 9 = .ok (.goto 4, 3) := by decide +kernel
theorem dX2_isFull_12 : decode cX2_isFull 12 = .ok (.iconst 0, 1) := by decide +kernel
theorem dX2_isFull_13 : decode cX2_isFull 13 = .ok (.ireturn, 1) := by decide +kernel
theorem dX2_hasLayerIn_0 : decode cX2_hasLayerIn 0 = .ok (.iconst 0, 1) := by decide +kernel
theorem dX2_hasLayerIn_1 : decode cX2_hasLayerIn 1 = .ok (.istore_n 2, 1) := by decide +kernel
theorem dX2_hasLayerIn_2 : decode cX2_hasLayerIn 2 = .ok (.iload_n 2, 1) := by decide +kernel
theorem dX2_hasLayerIn_3 : decode cX2_hasLayerIn 3 = .ok (.aload_n 0, 1) := by decide +kernel
theorem dX2_hasLayerIn_4 : decode cX2_hasLayerIn 4 = .ok (.getfield 35, 3) := by decide +kernel
theorem dX2_hasLayerIn_7 : decode cX2_hasLayerIn 7 = .ok (.if_icmp .ge 21, 3) := by decide +kernel
theorem dX2_hasLayerIn_10 : decode cX2_hasLayerIn 10 = .ok (.aload_n 0, 1) := by decide +kernel
theorem dX2_hasLayerIn_11 : decode cX2_hasLayerIn 11 = .ok (.getfield 23, 3) := by decide +kernel
theorem dX2_hasLayerIn_14 : decode cX2_hasLayerIn 14 = .ok (.iload_n 2, 1) := by decide +kernel
theorem dX2_hasLayerIn_15 : decode cX2_hasLayerIn 15 = .ok (.iaload, 1) := by decide +kernel
theorem dX2_hasLayerIn_16 : decode cX2_hasLayerIn 16 = .ok (.iload_n 1, 1) := by decide +kernel
theorem dX2_hasLayerIn_17 : decode cX2_hasLayerIn 17 = .ok (.if_icmp .ne 5, 3) := by decide +kernel
theorem dX2_hasLayerIn_20 : decode cX2_hasLayerIn 20 = .ok (.iconst 1, 1) := by decide +kernel
theorem dX2_hasLayerIn_21 : decode cX2_hasLayerIn 21 = .ok (.ireturn, 1) := by decide +kernel
theorem dX2_hasLayerIn_22 : decode cX2_hasLayerIn 22 = .ok (.iinc 2 1, 3) := by decide +kernel
theorem dX2_hasLayerIn_25 : decode cX2_hasLayerIn 25 = .ok (.goto (-23), 3) := by decide +kernel
theorem dX2_hasLayerIn_28 : decode cX2_hasLayerIn 28 = .ok (.iconst 0, 1) := by decide +kernel
theorem dX2_hasLayerIn_29 : decode cX2_hasLayerIn 29 = .ok (.ireturn, 1) := by decide +kernel
theorem dX2_hasLayerOf_0 : decode cX2_hasLayerOf 0 = .ok (.iconst 0, 1) := by decide +kernel
theorem dX2_hasLayerOf_1 : decode cX2_hasLayerOf 1 = .ok (.istore_n 2, 1) := by decide +kernel
theorem dX2_hasLayerOf_2 : decode cX2_hasLayerOf 2 = .ok (.iload_n 2, 1) := by decide +kernel
theorem dX2_hasLayerOf_3 : decode cX2_hasLayerOf 3 = .ok (.aload_n 0, 1) := by decide +kernel
theorem dX2_hasLayerOf_4 : decode cX2_hasLayerOf 4 = .ok (.getfield 35, 3) := by decide +kernel
theorem dX2_hasLayerOf_7 : decode cX2_hasLayerOf 7 = .ok (.if_icmp .ge 21, 3) := by decide +kernel
theorem dX2_hasLayerOf_10 : decode cX2_hasLayerOf 10 = .ok (.aload_n 0, 1) := by decide +kernel
theorem dX2_hasLayerOf_11 : decode cX2_hasLayerOf 11 = .ok (.getfield 16, 3) := by decide +kernel
theorem dX2_hasLayerOf_14 : decode cX2_hasLayerOf 14 = .ok (.iload_n 2, 1) := by decide +kernel
theorem dX2_hasLayerOf_15 : decode cX2_hasLayerOf 15 = .ok (.iaload, 1) := by decide +kernel
theorem dX2_hasLayerOf_16 : decode cX2_hasLayerOf 16 = .ok (.iload_n 1, 1) := by decide +kernel
theorem dX2_hasLayerOf_17 : decode cX2_hasLayerOf 17 = .ok (.if_icmp .ne 5, 3) := by decide +kernel
theorem dX2_hasLayerOf_20 : decode cX2_hasLayerOf 20 = .ok (.iconst 1, 1) := by decide +kernel
theorem dX2_hasLayerOf_21 : decode cX2_hasLayerOf 21 = .ok (.ireturn, 1) := by decide +kernel
theorem dX2_hasLayerOf_22 : decode cX2_hasLayerOf 22 = .ok (.iinc 2 1, 3) := by decide +kernel
theorem dX2_hasLayerOf_25 : decode cX2_hasLayerOf 25 = .ok (.goto (-23), 3) := by decide +kernel
theorem dX2_hasLayerOf_28 : decode cX2_hasLayerOf 28 = .ok (.iconst 0, 1) := by decide +kernel
theorem dX2_hasLayerOf_29 : decode cX2_hasLayerOf 29 = .ok (.ireturn, 1) := by decide +kernel
theorem dX2_addLayer_0 : decode cX2_addLayer 0 = .ok (.aload_n 0, 1) := by decide +kernel
theorem dX2_addLayer_1 : decode cX2_addLayer 1 = .ok (.getfield 16, 3) := by decide +kernel
theorem dX2_addLayer_4 : decode cX2_addLayer 4 = .ok (.aload_n 0, 1) := by decide +kernel
theorem dX2_addLayer_5 : decode cX2_addLayer 5 = .ok (.getfield 35, 3) := by decide +kernel
theorem dX2_addLayer_8 : decode cX2_addLayer 8 = .ok (.iload_n 1, 1) := by decide +kernel
theorem dX2_addLayer_9 : decode cX2_addLayer 9 = .ok (.iastore, 1) := by decide +kernel
theorem dX2_addLayer_10 : decode cX2_addLayer 10 = .ok (.aload_n 0, 1) := by decide +kernel
theorem dX2_addLayer_11 : decode cX2_addLayer 11 = .ok (.getfield 20, 3) := by decide +kernel
theorem dX2_addLayer_14 : decode cX2_addLayer 14 = .ok (.aload_n 0, 1) := by decide +kernel
theorem dX2_addLayer_15 : decode cX2_addLayer 15 = .ok (.getfield 35, 3) := by decide +kernel
theorem dX2_addLayer_18 : decode cX2_addLayer 18 = .ok (.iload_n 2, 1) := by decide +kernel
theorem dX2_addLayer_19 : decode cX2_addLayer 19 = .ok (.iastore, 1) := by decide +kernel
theorem dX2_addLayer_20 : decode cX2_addLayer 20 = .ok (.aload_n 0, 1) := by decide +kernel
theorem dX2_addLayer_21 : decode cX2_addLayer 21 = .ok (.getfield 23, 3) := by decide +kernel
theorem dX2_addLayer_24 : decode cX2_addLayer 24 = .ok (.aload_n 0, 1) := by decide +kernel
theorem dX2_addLayer_25 : decode cX2_addLayer 25 = .ok (.getfield 35, 3) := by decide +kernel
theorem dX2_addLayer_28 : decode cX2_addLayer 28 = .ok (.iload_n 3, 1) := by decide +kernel
theorem dX2_addLayer_29 : decode cX2_addLayer 29 = .ok (.iastore, 1) := by decide +kernel
theorem dX2_addLayer_30 : decode cX2_addLayer 30 = .ok (.aload_n 0, 1) := by decide +kernel
theorem dX2_addLayer_31 : decode cX2_addLayer 31 = .ok (.dup, 1) := by decide +kernel
theorem dX2_addLayer_32 : decode cX2_addLayer 32 = .ok (.getfield 35, 3) := by decide +kernel
theorem dX2_addLayer_35 : decode cX2_addLayer 35 = .ok (.iconst 1, 1) := by decide +kernel
theorem dX2_addLayer_36 : decode cX2_addLayer 36 = .ok (.iadd, 1) := by decide +kernel
theorem dX2_addLayer_37 : decode cX2_addLayer 37 = .ok (.putfield 35, 3) := by decide +kernel
theorem dX2_addLayer_40 : decode cX2_addLayer 40 = .ok (.return_, 1) := by decide +kernel
theorem dX2_factOf_0 : decode cX2_factOf 0 = .ok (.iload_n 2, 1) := by decide +kernel
theorem dX2_factOf_1 : decode cX2_factOf 1 = .ok (.ifCond .ne 10, 3) := by decide +kernel
theorem dX2_factOf_4 : decode cX2_factOf 4 = .ok (.aload_n 0, 1) := by decide +kernel
theorem dX2_factOf_5 : decode cX2_factOf 5 = .ok (.getfield 16, 3) := by decide +kernel
theorem dX2_factOf_8 : decode cX2_factOf 8 = .ok (.iload_n 1, 1) := by decide +kernel
theorem dX2_factOf_9 : decode cX2_factOf 9 = .ok (.iaload, 1) := by decide +kernel
theorem dX2_factOf_10 : decode cX2_factOf 10 = .ok (.ireturn, 1) := by decide +kernel
theorem dX2_factOf_11 : decode cX2_factOf 11 = .ok (.iload_n 2, 1) := by decide +kernel
theorem dX2_factOf_12 : decode cX2_factOf 12 = .ok (.iconst 1, 1) := by decide +kernel
theorem dX2_factOf_13 : decode cX2_factOf 13 = .ok (.if_icmp .ne 12, 3) := by decide +kernel
theorem dX2_factOf_16 : decode cX2_factOf 16 = .ok (.aload_n 0, 1) := by decide +kernel
theorem dX2_factOf_17 : decode cX2_factOf 17 = .ok (.getfield 20, 3) := by decide +kernel
theorem dX2_factOf_20 : decode cX2_factOf 20 = .ok (.iload_n 1, 1) := by decide +kernel
theorem dX2_factOf_21 : decode cX2_factOf 21 = .ok (.iaload, 1) := by decide +kernel
theorem dX2_factOf_22 : decode cX2_factOf 22 = .ok (.goto 9, 3) := by decide +kernel
theorem dX2_factOf_25 : decode cX2_factOf 25 = .ok (.aload_n 0, 1) := by decide +kernel
theorem dX2_factOf_26 : decode cX2_factOf 26 = .ok (.getfield 23, 3) := by decide +kernel
theorem dX2_factOf_29 : decode cX2_factOf 29 = .ok (.iload_n 1, 1) := by decide +kernel
theorem dX2_factOf_30 : decode cX2_factOf 30 = .ok (.iaload, 1) := by decide +kernel
theorem dX2_factOf_31 : decode cX2_factOf 31 = .ok (.ireturn, 1) := by decide +kernel
set_option maxRecDepth 20000 in
theorem ggX2_digestCells_X2_valueAt : GoodIn wsX2_digestCells wsX2_valueAt := goodIn_r _ [6, 7, 8, 9, 10, 11, 12] (by decide +kernel) (by decide +kernel)
set_option maxRecDepth 20000 in
theorem gX2_digestCells_X2_valueAt : GoodIn wsX2_digestCells (wsV RX2 41 RX2 yX2_valueAt wsX2_valueAt) := goodIn_app (goodIn_of _ (by decide +kernel)) ggX2_digestCells_X2_valueAt
theorem dX2_digestCells_0 : decode cX2_digestCells 0 = .ok (.lload_n 1, 1) := by decide +kernel
theorem dX2_digestCells_1 : decode cX2_digestCells 1 = .ok (.lstore_n 3, 1) := by decide +kernel
theorem dX2_digestCells_2 : decode cX2_digestCells 2 = .ok (.iconst 0, 1) := by decide +kernel
theorem dX2_digestCells_3 : decode cX2_digestCells 3 = .ok (.istore 5, 2) := by decide +kernel
theorem dX2_digestCells_5 : decode cX2_digestCells 5 = .ok (.iload 5, 2) := by decide +kernel
theorem dX2_digestCells_7 : decode cX2_digestCells 7 = .ok (.bipush 10, 2) := by decide +kernel
theorem dX2_digestCells_9 : decode cX2_digestCells 9 = .ok (.if_icmp .ge 41, 3) := by decide +kernel
theorem dX2_digestCells_12 : decode cX2_digestCells 12 = .ok (.iconst 0, 1) := by decide +kernel
theorem dX2_digestCells_13 : decode cX2_digestCells 13 = .ok (.istore 6, 2) := by decide +kernel
theorem dX2_digestCells_15 : decode cX2_digestCells 15 = .ok (.iload 6, 2) := by decide +kernel
theorem dX2_digestCells_17 : decode cX2_digestCells 17 = .ok (.bipush 15, 2) := by decide +kernel
theorem dX2_digestCells_19 : decode cX2_digestCells 19 = .ok (.if_icmp .ge 25, 3) := by decide +kernel
theorem dX2_digestCells_22 : decode cX2_digestCells 22 = .ok (.ldc2_w 39, 3) := by decide +kernel
theorem dX2_digestCells_25 : decode cX2_digestCells 25 = .ok (.lload_n 3, 1) := by decide +kernel
theorem dX2_digestCells_26 : decode cX2_digestCells 26 = .ok (.lmul, 1) := by decide +kernel
theorem dX2_digestCells_27 : decode cX2_digestCells 27 = .ok (.aload_n 0, 1) := by decide +kernel
theorem dX2_digestCells_28 : decode cX2_digestCells 28 = .ok (.iload 5, 2) := by decide +kernel
theorem dX2_digestCells_30 : decode cX2_digestCells 30 = .ok (.iload 6, 2) := by decide +kernel
theorem dX2_digestCells_32 : decode cX2_digestCells 32 = .ok (.invokevirtual 41, 3) := by decide +kernel
theorem dX2_digestCells_35 : decode cX2_digestCells 35 = .ok (.i2l, 1) := by decide +kernel
theorem dX2_digestCells_36 : decode cX2_digestCells 36 = .ok (.ladd, 1) := by decide +kernel
theorem dX2_digestCells_37 : decode cX2_digestCells 37 = .ok (.lstore_n 3, 1) := by decide +kernel
theorem dX2_digestCells_38 : decode cX2_digestCells 38 = .ok (.iinc 6 1, 3) := by decide +kernel
theorem dX2_digestCells_41 : decode cX2_digestCells 41 = .ok (.goto (-26), 3) := by decide +kernel
theorem dX2_digestCells_44 : decode cX2_digestCells 44 = .ok (.iinc 5 1, 3) := by decide +kernel
theorem dX2_digestCells_47 : decode cX2_digestCells 47 = .ok (.goto (-42), 3) := by decide +kernel
theorem dX2_digestCells_50 : decode cX2_digestCells 50 = .ok (.lload_n 3, 1) := by decide +kernel
theorem dX2_digestCells_51 : decode cX2_digestCells 51 = .ok (.lreturn, 1) := by decide +kernel
set_option maxRecDepth 20000 in
theorem ggX2_digestLayers_X2_factOf : GoodIn wsX2_digestLayers wsX2_factOf := goodIn_r _ [7, 8, 9, 10, 11, 12, 13, 14, 15] (by decide +kernel) (by decide +kernel)
set_option maxRecDepth 20000 in
theorem gX2_digestLayers_X2_factOf : GoodIn wsX2_digestLayers (wsV RX2 45 RX2 yX2_factOf wsX2_factOf) := goodIn_app (goodIn_of _ (by decide +kernel)) ggX2_digestLayers_X2_factOf
theorem dX2_digestLayers_0 : decode cX2_digestLayers 0 = .ok (.lload_n 1, 1) := by decide +kernel
theorem dX2_digestLayers_1 : decode cX2_digestLayers 1 = .ok (.lstore_n 3, 1) := by decide +kernel
theorem dX2_digestLayers_2 : decode cX2_digestLayers 2 = .ok (.iconst 0, 1) := by decide +kernel
theorem dX2_digestLayers_3 : decode cX2_digestLayers 3 = .ok (.istore 5, 2) := by decide +kernel
theorem dX2_digestLayers_5 : decode cX2_digestLayers 5 = .ok (.iload 5, 2) := by decide +kernel
theorem dX2_digestLayers_7 : decode cX2_digestLayers 7 = .ok (.aload_n 0, 1) := by decide +kernel
theorem dX2_digestLayers_8 : decode cX2_digestLayers 8 = .ok (.getfield 35, 3) := by decide +kernel
theorem dX2_digestLayers_11 : decode cX2_digestLayers 11 = .ok (.if_icmp .ge 40, 3) := by decide +kernel
theorem dX2_digestLayers_14 : decode cX2_digestLayers 14 = .ok (.iconst 0, 1) := by decide +kernel
theorem dX2_digestLayers_15 : decode cX2_digestLayers 15 = .ok (.istore 6, 2) := by decide +kernel
theorem dX2_digestLayers_17 : decode cX2_digestLayers 17 = .ok (.iload 6, 2) := by decide +kernel
theorem dX2_digestLayers_19 : decode cX2_digestLayers 19 = .ok (.iconst 2, 1) := by decide +kernel
theorem dX2_digestLayers_20 : decode cX2_digestLayers 20 = .ok (.if_icmp .gt 25, 3) := by decide +kernel
theorem dX2_digestLayers_23 : decode cX2_digestLayers 23 = .ok (.ldc2_w 39, 3) := by decide +kernel
theorem dX2_digestLayers_26 : decode cX2_digestLayers 26 = .ok (.lload_n 3, 1) := by decide +kernel
theorem dX2_digestLayers_27 : decode cX2_digestLayers 27 = .ok (.lmul, 1) := by decide +kernel
theorem dX2_digestLayers_28 : decode cX2_digestLayers 28 = .ok (.aload_n 0, 1) := by decide +kernel
theorem dX2_digestLayers_29 : decode cX2_digestLayers 29 = .ok (.iload 5, 2) := by decide +kernel
theorem dX2_digestLayers_31 : decode cX2_digestLayers 31 = .ok (.iload 6, 2) := by decide +kernel
theorem dX2_digestLayers_33 : decode cX2_digestLayers 33 = .ok (.invokevirtual 45, 3) := by decide +kernel
theorem dX2_digestLayers_36 : decode cX2_digestLayers 36 = .ok (.i2l, 1) := by decide +kernel
theorem dX2_digestLayers_37 : decode cX2_digestLayers 37 = .ok (.ladd, 1) := by decide +kernel
theorem dX2_digestLayers_38 : decode cX2_digestLayers 38 = .ok (.lstore_n 3, 1) := by decide +kernel
theorem dX2_digestLayers_39 : decode cX2_digestLayers 39 = .ok (.iinc 6 1, 3) := by decide +kernel
theorem dX2_digestLayers_42 : decode cX2_digestLayers 42 = .ok (.goto (-25), 3) := by decide +kernel
theorem dX2_digestLayers_45 : decode cX2_digestLayers 45 = .ok (.iinc 5 1, 3) := by decide +kernel
theorem dX2_digestLayers_48 : decode cX2_digestLayers 48 = .ok (.goto (-43), 3) := by decide +kernel
theorem dX2_digestLayers_51 : decode cX2_digestLayers 51 = .ok (.lload_n 3, 1) := by decide +kernel
theorem dX2_digestLayers_52 : decode cX2_digestLayers 52 = .ok (.lreturn, 1) := by decide +kernel
theorem dX3_init_0 : decode cX3_init 0 = .ok (.aload_n 0, 1) := by decide +kernel
theorem dX3_init_1 : decode cX3_init 1 = .ok (.invokespecial 3, 3) := by decide +kernel
theorem dX3_init_4 : decode cX3_init 4 = .ok (.return_, 1) := by decide +kernel
theorem dX3_tries_0 : decode cX3_tries 0 = .ok (.iconst 0, 1) := by decide +kernel
theorem dX3_tries_1 : decode cX3_tries 1 = .ok (.istore_n 3, 1) := by decide +kernel
theorem dX3_tries_2 : decode cX3_tries 2 = .ok (.iconst 0, 1) := by decide +kernel
theorem dX3_tries_3 : decode cX3_tries 3 = .ok (.istore 4, 2) := by decide +kernel
theorem dX3_tries_5 : decode cX3_tries 5 = .ok (.iload 4, 2) := by decide +kernel
theorem dX3_tries_7 : decode cX3_tries 7 = .ok (.aload_n 1, 1) := by decide +kernel
theorem dX3_tries_8 : decode cX3_tries 8 = .ok (.getfield 9, 3) := by decide +kernel
theorem dX3_tries_11 : decode cX3_tries 11 = .ok (.if_icmp .ge 47, 3) := by decide +kernel
theorem dX3_tries_14 : decode cX3_tries 14 = .ok (.iconst 0, 1) := by decide +kernel
theorem dX3_tries_15 : decode cX3_tries 15 = .ok (.istore 5, 2) := by decide +kernel
theorem dX3_tries_17 : decode cX3_tries 17 = .ok (.iload 5, 2) := by decide +kernel
theorem dX3_tries_19 : decode cX3_tries 19 = .ok (.aload_n 2, 1) := by decide +kernel
theorem dX3_tries_20 : decode cX3_tries 20 = .ok (.getfield 9, 3) := by decide +kernel
theorem dX3_tries_23 : decode cX3_tries 23 = .ok (.if_icmp .ge 29, 3) := by decide +kernel
theorem dX3_tries_26 : decode cX3_tries 26 = .ok (.aload_n 1, 1) := by decide +kernel
theorem dX3_tries_27 : decode cX3_tries 27 = .ok (.getfield 15, 3) := by decide +kernel
theorem dX3_tries_30 : decode cX3_tries 30 = .ok (.iload 4, 2) := by decide +kernel
theorem dX3_tries_32 : decode cX3_tries 32 = .ok (.iaload, 1) := by decide +kernel
theorem dX3_tries_33 : decode cX3_tries 33 = .ok (.aload_n 2, 1) := by decide +kernel
theorem dX3_tries_34 : decode cX3_tries 34 = .ok (.getfield 15, 3) := by decide +kernel
theorem dX3_tries_37 : decode cX3_tries 37 = .ok (.iload 5, 2) := by decide +kernel
theorem dX3_tries_39 : decode cX3_tries 39 = .ok (.iaload, 1) := by decide +kernel
theorem dX3_tries_40 : decode cX3_tries 40 = .ok (.if_icmp .eq 6, 3) := by decide +kernel
theorem dX3_tries_43 : decode cX3_tries 43 = .ok (.iinc 3 1, 3) := by decide +kernel
theorem dX3_tries_46 : decode cX3_tries 46 = .ok (.iinc 5 1, 3) := by decide +kernel
theorem dX3_tries_49 : decode cX3_tries 49 = .ok (.goto (-32), 3) := by decide +kernel
theorem dX3_tries_52 : decode cX3_tries 52 = .ok (.iinc 4 1, 3) := by decide +kernel
theorem dX3_tries_55 : decode cX3_tries 55 = .ok (.goto (-50), 3) := by decide +kernel
theorem dX3_tries_58 : decode cX3_tries 58 = .ok (.iload_n 3, 1) := by decide +kernel
theorem dX3_tries_59 : decode cX3_tries 59 = .ok (.ireturn, 1) := by decide +kernel
set_option maxRecDepth 20000 in
theorem ggX3_seek_X3_take : GoodIn wsX3_seek wsX3_take := goodIn_r _ [10, 1, 11, 12, 13, 14, 15, 16, 17] (by decide +kernel) (by decide +kernel)
set_option maxRecDepth 20000 in
theorem gX3_seek_X3_take : GoodIn wsX3_seek (wsV RX3 30 RX3 yX3_take wsX3_take) := goodIn_app (goodIn_of _ (by decide +kernel)) ggX3_seek_X3_take
theorem dX3_seek_0 : decode cX3_seek 0 = .ok (.aload_n 0, 1) := by decide +kernel
theorem dX3_seek_1 : decode cX3_seek 1 = .ok (.bipush (-9), 2) := by decide +kernel
theorem dX3_seek_3 : decode cX3_seek 3 = .ok (.putfield 19, 3) := by decide +kernel
theorem dX3_seek_6 : decode cX3_seek 6 = .ok (.iconst 0, 1) := by decide +kernel
theorem dX3_seek_7 : decode cX3_seek 7 = .ok (.istore_n 3, 1) := by decide +kernel
theorem dX3_seek_8 : decode cX3_seek 8 = .ok (.iload_n 3, 1) := by decide +kernel
theorem dX3_seek_9 : decode cX3_seek 9 = .ok (.aload_n 1, 1) := by decide +kernel
theorem dX3_seek_10 : decode cX3_seek 10 = .ok (.getfield 9, 3) := by decide +kernel
theorem dX3_seek_13 : decode cX3_seek 13 = .ok (.if_icmp .ge 87, 3) := by decide +kernel
theorem dX3_seek_16 : decode cX3_seek 16 = .ok (.iconst 0, 1) := by decide +kernel
theorem dX3_seek_17 : decode cX3_seek 17 = .ok (.istore 4, 2) := by decide +kernel
theorem dX3_seek_19 : decode cX3_seek 19 = .ok (.iload 4, 2) := by decide +kernel
theorem dX3_seek_21 : decode cX3_seek 21 = .ok (.aload_n 2, 1) := by decide +kernel
theorem dX3_seek_22 : decode cX3_seek 22 = .ok (.getfield 9, 3) := by decide +kernel
theorem dX3_seek_25 : decode cX3_seek 25 = .ok (.if_icmp .ge 69, 3) := by decide +kernel
theorem dX3_seek_28 : decode cX3_seek 28 = .ok (.aload_n 1, 1) := by decide +kernel
theorem dX3_seek_29 : decode cX3_seek 29 = .ok (.getfield 15, 3) := by decide +kernel
theorem dX3_seek_32 : decode cX3_seek 32 = .ok (.iload_n 3, 1) := by decide +kernel
theorem dX3_seek_33 : decode cX3_seek 33 = .ok (.iaload, 1) := by decide +kernel
theorem dX3_seek_34 : decode cX3_seek 34 = .ok (.aload_n 2, 1) := by decide +kernel
theorem dX3_seek_35 : decode cX3_seek 35 = .ok (.getfield 15, 3) := by decide +kernel
theorem dX3_seek_38 : decode cX3_seek 38 = .ok (.iload 4, 2) := by decide +kernel
theorem dX3_seek_40 : decode cX3_seek 40 = .ok (.iaload, 1) := by decide +kernel
theorem dX3_seek_41 : decode cX3_seek 41 = .ok (.if_icmp .eq 47, 3) := by decide +kernel
theorem dX3_seek_44 : decode cX3_seek 44 = .ok (.aload_n 0, 1) := by decide +kernel
theorem dX3_seek_45 : decode cX3_seek 45 = .ok (.aload_n 1, 1) := by decide +kernel
theorem dX3_seek_46 : decode cX3_seek 46 = .ok (.getfield 24, 3) := by decide +kernel
theorem dX3_seek_49 : decode cX3_seek 49 = .ok (.iload_n 3, 1) := by decide +kernel
theorem dX3_seek_50 : decode cX3_seek 50 = .ok (.iaload, 1) := by decide +kernel
theorem dX3_seek_51 : decode cX3_seek 51 = .ok (.aload_n 2, 1) := by decide +kernel
theorem dX3_seek_52 : decode cX3_seek 52 = .ok (.getfield 27, 3) := by decide +kernel
theorem dX3_seek_55 : decode cX3_seek 55 = .ok (.iload 4, 2) := by decide +kernel
theorem dX3_seek_57 : decode cX3_seek 57 = .ok (.iaload, 1) := by decide +kernel
theorem dX3_seek_58 : decode cX3_seek 58 = .ok (.iadd, 1) := by decide +kernel
theorem dX3_seek_59 : decode cX3_seek 59 = .ok (.iload_n 3, 1) := by decide +kernel
theorem dX3_seek_60 : decode cX3_seek 60 = .ok (.iload 4, 2) := by decide +kernel
theorem dX3_seek_62 : decode cX3_seek 62 = .ok (.iconst 1, 1) := by decide +kernel
theorem dX3_seek_63 : decode cX3_seek 63 = .ok (.invokevirtual 30, 3) := by decide +kernel
theorem dX3_seek_66 : decode cX3_seek 66 = .ok (.aload_n 0, 1) := by decide +kernel
theorem dX3_seek_67 : decode cX3_seek 67 = .ok (.aload_n 1, 1) := by decide +kernel
theorem dX3_seek_68 : decode cX3_seek 68 = .ok (.getfield 27, 3) := by decide +kernel
theorem dX3_seek_71 : decode cX3_seek 71 = .ok (.iload_n 3, 1) := by decide +kernel
theorem dX3_seek_72 : decode cX3_seek 72 = .ok (.iaload, 1) := by decide +kernel
theorem dX3_seek_73 : decode cX3_seek 73 = .ok (.aload_n 2, 1) := by decide +kernel
theorem dX3_seek_74 : decode cX3_seek 74 = .ok (.getfield 24, 3) := by decide +kernel
theorem dX3_seek_77 : decode cX3_seek 77 = .ok (.iload 4, 2) := by decide +kernel
theorem dX3_seek_79 : decode cX3_seek 79 = .ok (.iaload, 1) := by decide +kernel
theorem dX3_seek_80 : decode cX3_seek 80 = .ok (.iadd, 1) := by decide +kernel
theorem dX3_seek_81 : decode cX3_seek 81 = .ok (.iload_n 3, 1) := by decide +kernel
theorem dX3_seek_82 : decode cX3_seek 82 = .ok (.iload 4, 2) := by decide +kernel
theorem dX3_seek_84 : decode cX3_seek 84 = .ok (.iconst 0, 1) := by decide +kernel
theorem dX3_seek_85 : decode cX3_seek 85 = .ok (.invokevirtual 30, 3) := by decide +kernel
theorem dX3_seek_88 : decode cX3_seek 88 = .ok (.iinc 4 1, 3) := by decide +kernel
theorem dX3_seek_91 : decode cX3_seek 91 = .ok (.goto (-72), 3) := by decide +kernel
theorem dX3_seek_94 : decode cX3_seek 94 = .ok (.iinc 3 1, 3) := by decide +kernel
theorem dX3_seek_97 : decode cX3_seek 97 = .ok (.goto (-89), 3) := by decide +kernel
theorem dX3_seek_100 : decode cX3_seek 100 = .ok (.aload_n 0, 1) := by decide +kernel
theorem dX3_seek_101 : decode cX3_seek 101 = .ok (.getfield 19, 3) := by decide +kernel
theorem dX3_seek_104 : decode cX3_seek 104 = .ok (.bipush (-9), 2) := by decide +kernel
theorem dX3_seek_106 : decode cX3_seek 106 = .ok (.if_icmp .eq 7, 3) := by decide +kernel
theorem dX3_seek_109 : decode cX3_seek 109 = .ok (.iconst 1, 1) := by decide +kernel
theorem dX3_seek_110 : decode cX3_seek 110 = .ok (.goto 4, 3) := by decide +kernel
theorem dX3_seek_113 : decode cX3_seek 113 = .ok (.iconst 0, 1) := by decide +kernel
theorem dX3_seek_114 : decode cX3_seek 114 = .ok (.ireturn, 1) := by decide +kernel
theorem dX3_take_0 : decode cX3_take 0 = .ok (.aload_n 0, 1) := by decide +kernel
theorem dX3_take_1 : decode cX3_take 1 = .ok (.getfield 19, 3) := by decide +kernel
theorem dX3_take_4 : decode cX3_take 4 = .ok (.bipush (-9), 2) := by decide +kernel
theorem dX3_take_6 : decode cX3_take 6 = .ok (.if_icmp .eq 11, 3) := by decide +kernel
theorem dX3_take_9 : decode cX3_take 9 = .ok (.iload_n 1, 1) := by decide +kernel
theorem dX3_take_10 : decode cX3_take 10 = .ok (.aload_n 0, 1) := by decide +kernel
theorem dX3_take_11 : decode cX3_take 11 = .ok (.getfield 19, 3) := by decide +kernel
theorem dX3_take_14 : decode cX3_take 14 = .ok (.if_icmp .ge 24, 3) := by decide +kernel
theorem dX3_take_17 : decode cX3_take 17 = .ok (.aload_n 0, 1) := by decide +kernel
theorem dX3_take_18 : decode cX3_take 18 = .ok (.iload_n 1, 1) := by decide +kernel
theorem dX3_take_19 : decode cX3_take 19 = .ok (.putfield 19, 3) := by decide +kernel
theorem dX3_take_22 : decode cX3_take 22 = .ok (.aload_n 0, 1) := by decide +kernel
theorem dX3_take_23 : decode cX3_take 23 = .ok (.iload_n 2, 1) := by decide +kernel
theorem dX3_take_24 : decode cX3_take 24 = .ok (.putfield 34, 3) := by decide +kernel
theorem dX3_take_27 : decode cX3_take 27 = .ok (.aload_n 0, 1) := by decide +kernel
theorem dX3_take_28 : decode cX3_take 28 = .ok (.iload_n 3, 1) := by decide +kernel
theorem dX3_take_29 : decode cX3_take 29 = .ok (.putfield 37, 3) := by decide +kernel
theorem dX3_take_32 : decode cX3_take 32 = .ok (.aload_n 0, 1) := by decide +kernel
theorem dX3_take_33 : decode cX3_take 33 = .ok (.iload 4, 2) := by decide +kernel
theorem dX3_take_35 : decode cX3_take 35 = .ok (.putfield 40, 3) := by decide +kernel
theorem dX3_take_38 : decode cX3_take 38 = .ok (.return_, 1) := by decide +kernel
theorem dX4_init_0 : decode cX4_init 0 = .ok (.aload_n 0, 1) := by decide +kernel
theorem dX4_init_1 : decode cX4_init 1 = .ok (.invokespecial 5, 3) := by decide +kernel
theorem dX4_init_4 : decode cX4_init 4 = .ok (.aload_n 0, 1) := by decide +kernel
theorem dX4_init_5 : decode cX4_init 5 = .ok (.sipush 160, 3) := by decide +kernel
theorem dX4_init_8 : decode cX4_init 8 = .ok (.newarray .int, 2) := by decide +kernel
theorem dX4_init_10 : decode cX4_init 10 = .ok (.putfield 13, 3) := by decide +kernel
theorem dX4_init_13 : decode cX4_init 13 = .ok (.aload_n 0, 1) := by decide +kernel
theorem dX4_init_14 : decode cX4_init 14 = .ok (.sipush 160, 3) := by decide +kernel
theorem dX4_init_17 : decode cX4_init 17 = .ok (.newarray .int, 2) := by decide +kernel
theorem dX4_init_19 : decode cX4_init 19 = .ok (.putfield 17, 3) := by decide +kernel
theorem dX4_init_22 : decode cX4_init 22 = .ok (.aload_n 0, 1) := by decide +kernel
theorem dX4_init_23 : decode cX4_init 23 = .ok (.sipush 160, 3) := by decide +kernel
theorem dX4_init_26 : decode cX4_init 26 = .ok (.newarray .int, 2) := by decide +kernel
theorem dX4_init_28 : decode cX4_init 28 = .ok (.putfield 20, 3) := by decide +kernel
theorem dX4_init_31 : decode cX4_init 31 = .ok (.aload_n 0, 1) := by decide +kernel
theorem dX4_init_32 : decode cX4_init 32 = .ok (.sipush 160, 3) := by decide +kernel
theorem dX4_init_35 : decode cX4_init 35 = .ok (.newarray .int, 2) := by decide +kernel
theorem dX4_init_37 : decode cX4_init 37 = .ok (.putfield 23, 3) := by decide +kernel
theorem dX4_init_40 : decode cX4_init 40 = .ok (.return_, 1) := by decide +kernel
theorem dX4_add_0 : decode cX4_add 0 = .ok (.aload_n 0, 1) := by decide +kernel
theorem dX4_add_1 : decode cX4_add 1 = .ok (.getfield 13, 3) := by decide +kernel
theorem dX4_add_4 : decode cX4_add 4 = .ok (.aload_n 0, 1) := by decide +kernel
theorem dX4_add_5 : decode cX4_add 5 = .ok (.getfield 26, 3) := by decide +kernel
theorem dX4_add_8 : decode cX4_add 8 = .ok (.iload_n 1, 1) := by decide +kernel
theorem dX4_add_9 : decode cX4_add 9 = .ok (.iastore, 1) := by decide +kernel
theorem dX4_add_10 : decode cX4_add 10 = .ok (.aload_n 0, 1) := by decide +kernel
theorem dX4_add_11 : decode cX4_add 11 = .ok (.getfield 17, 3) := by decide +kernel
theorem dX4_add_14 : decode cX4_add 14 = .ok (.aload_n 0, 1) := by decide +kernel
theorem dX4_add_15 : decode cX4_add 15 = .ok (.getfield 26, 3) := by decide +kernel
theorem dX4_add_18 : decode cX4_add 18 = .ok (.iload_n 2, 1) := by decide +kernel
theorem dX4_add_19 : decode cX4_add 19 = .ok (.iastore, 1) := by decide +kernel
theorem dX4_add_20 : decode cX4_add 20 = .ok (.aload_n 0, 1) := by decide +kernel
theorem dX4_add_21 : decode cX4_add 21 = .ok (.getfield 20, 3) := by decide +kernel
theorem dX4_add_24 : decode cX4_add 24 = .ok (.aload_n 0, 1) := by decide +kernel
theorem dX4_add_25 : decode cX4_add 25 = .ok (.getfield 26, 3) := by decide +kernel
theorem dX4_add_28 : decode cX4_add 28 = .ok (.iload_n 3, 1) := by decide +kernel
theorem dX4_add_29 : decode cX4_add 29 = .ok (.iastore, 1) := by decide +kernel
theorem dX4_add_30 : decode cX4_add 30 = .ok (.aload_n 0, 1) := by decide +kernel
theorem dX4_add_31 : decode cX4_add 31 = .ok (.getfield 23, 3) := by decide +kernel
theorem dX4_add_34 : decode cX4_add 34 = .ok (.aload_n 0, 1) := by decide +kernel
theorem dX4_add_35 : decode cX4_add 35 = .ok (.getfield 26, 3) := by decide +kernel
theorem dX4_add_38 : decode cX4_add 38 = .ok (.iload 4, 2) := by decide +kernel
theorem dX4_add_40 : decode cX4_add 40 = .ok (.iastore, 1) := by decide +kernel
theorem dX4_add_41 : decode cX4_add 41 = .ok (.aload_n 0, 1) := by decide +kernel
theorem dX4_add_42 : decode cX4_add 42 = .ok (.dup, 1) := by decide +kernel
theorem dX4_add_43 : decode cX4_add 43 = .ok (.getfield 26, 3) := by decide +kernel
theorem dX4_add_46 : decode cX4_add 46 = .ok (.iconst 1, 1) := by decide +kernel
theorem dX4_add_47 : decode cX4_add 47 = .ok (.iadd, 1) := by decide +kernel
theorem dX4_add_48 : decode cX4_add 48 = .ok (.putfield 26, 3) := by decide +kernel
theorem dX4_add_51 : decode cX4_add 51 = .ok (.return_, 1) := by decide +kernel
theorem dX4_leastLack_0 : decode cX4_leastLack 0 = .ok (.bipush (-9), 2) := by decide +kernel
theorem dX4_leastLack_2 : decode cX4_leastLack 2 = .ok (.istore_n 1, 1) := by decide +kernel
theorem dX4_leastLack_3 : decode cX4_leastLack 3 = .ok (.iconst 0, 1) := by decide +kernel
theorem dX4_leastLack_4 : decode cX4_leastLack 4 = .ok (.istore_n 2, 1) := by decide +kernel
theorem dX4_leastLack_5 : decode cX4_leastLack 5 = .ok (.iload_n 2, 1) := by decide +kernel
theorem dX4_leastLack_6 : decode cX4_leastLack 6 = .ok (.aload_n 0, 1) := by decide +kernel
theorem dX4_leastLack_7 : decode cX4_leastLack 7 = .ok (.getfield 26, 3) := by decide +kernel
theorem dX4_leastLack_10 : decode cX4_leastLack 10 = .ok (.if_icmp .ge 33, 3) := by decide +kernel
theorem dX4_leastLack_13 : decode cX4_leastLack 13 = .ok (.iload_n 2, 1) := by decide +kernel
theorem dX4_leastLack_14 : decode cX4_leastLack 14 = .ok (.ifCond .ne 12, 3) := by decide +kernel
theorem dX4_leastLack_17 : decode cX4_leastLack 17 = .ok (.aload_n 0, 1) := by decide +kernel
theorem dX4_leastLack_18 : decode cX4_leastLack 18 = .ok (.getfield 20, 3) := by decide +kernel
theorem dX4_leastLack_21 : decode cX4_leastLack 21 = .ok (.iload_n 2, 1) := by decide +kernel
theorem dX4_leastLack_22 : decode cX4_leastLack 22 = .ok (.iaload, 1) := by decide +kernel
theorem dX4_leastLack_23 : decode cX4_leastLack 23 = .ok (.goto 13, 3) := by decide +kernel
theorem dX4_leastLack_26 : decode cX4_leastLack 26 = .ok (.iload_n 1, 1) := by decide +kernel
theorem dX4_leastLack_27 : decode cX4_leastLack 27 = .ok (.aload_n 0, 1) := by decide +kernel
theorem dX4_leastLack_28 : decode cX4_leastLack 28 = .ok (.getfield 20, 3) := by decide +kernel
theorem dX4_leastLack_31 : decode cX4_leastLack 31 = .ok (.iload_n 2, 1) := by decide +kernel
theorem dX4_leastLack_32 : decode cX4_leastLack 32 = .ok (.iaload, 1) := by decide +kernel
theorem dX4_leastLack_33 : decode cX4_leastLack 33 = .ok (.invokestatic 30, 3) := by decide +kernel
theorem dX4_leastLack_36 : decode cX4_leastLack 36 = .ok (.istore_n 1, 1) := by decide +kernel
theorem dX4_leastLack_37 : decode cX4_leastLack 37 = .ok (.iinc 2 1, 3) := by decide +kernel
theorem dX4_leastLack_40 : decode cX4_leastLack 40 = .ok (.goto (-35), 3) := by decide +kernel
theorem dX4_leastLack_43 : decode cX4_leastLack 43 = .ok (.iload_n 1, 1) := by decide +kernel
theorem dX4_leastLack_44 : decode cX4_leastLack 44 = .ok (.ireturn, 1) := by decide +kernel
set_option maxRecDepth 20000 in
theorem ggX4_firstRival_X4_leastLack : GoodIn wsX4_firstRival wsX4_leastLack := goodIn_r _ [7, 1, 2, 8, 9, 10, 11, 12, 13, 14, 15, 16] (by decide +kernel) (by decide +kernel)
set_option maxRecDepth 20000 in
theorem gX4_firstRival_X4_leastLack : GoodIn wsX4_firstRival (wsV RX4 36 RX4 yX4_leastLack wsX4_leastLack) := goodIn_app (goodIn_of _ (by decide +kernel)) ggX4_firstRival_X4_leastLack
theorem dX4_firstRival_0 : decode cX4_firstRival 0 = .ok (.aload_n 0, 1) := by decide +kernel
theorem dX4_firstRival_1 : decode cX4_firstRival 1 = .ok (.invokevirtual 36, 3) := by decide +kernel
theorem dX4_firstRival_4 : decode cX4_firstRival 4 = .ok (.istore_n 1, 1) := by decide +kernel
theorem dX4_firstRival_5 : decode cX4_firstRival 5 = .ok (.iconst 0, 1) := by decide +kernel
theorem dX4_firstRival_6 : decode cX4_firstRival 6 = .ok (.istore_n 2, 1) := by decide +kernel
theorem dX4_firstRival_7 : decode cX4_firstRival 7 = .ok (.iload_n 2, 1) := by decide +kernel
theorem dX4_firstRival_8 : decode cX4_firstRival 8 = .ok (.aload_n 0, 1) := by decide +kernel
theorem dX4_firstRival_9 : decode cX4_firstRival 9 = .ok (.getfield 26, 3) := by decide +kernel
theorem dX4_firstRival_12 : decode cX4_firstRival 12 = .ok (.if_icmp .ge 21, 3) := by decide +kernel
theorem dX4_firstRival_15 : decode cX4_firstRival 15 = .ok (.aload_n 0, 1) := by decide +kernel
theorem dX4_firstRival_16 : decode cX4_firstRival 16 = .ok (.getfield 20, 3) := by decide +kernel
theorem dX4_firstRival_19 : decode cX4_firstRival 19 = .ok (.iload_n 2, 1) := by decide +kernel
theorem dX4_firstRival_20 : decode cX4_firstRival 20 = .ok (.iaload, 1) := by decide +kernel
theorem dX4_firstRival_21 : decode cX4_firstRival 21 = .ok (.iload_n 1, 1) := by decide +kernel
theorem dX4_firstRival_22 : decode cX4_firstRival 22 = .ok (.if_icmp .ne 5, 3) := by decide +kernel
theorem dX4_firstRival_25 : decode cX4_firstRival 25 = .ok (.iload_n 2, 1) := by decide +kernel
theorem dX4_firstRival_26 : decode cX4_firstRival 26 = .ok (.ireturn, 1) := by decide +kernel
theorem dX4_firstRival_27 : decode cX4_firstRival 27 = .ok (.iinc 2 1, 3) := by decide +kernel
theorem dX4_firstRival_30 : decode cX4_firstRival 30 = .ok (.goto (-23), 3) := by decide +kernel
theorem dX4_firstRival_33 : decode cX4_firstRival 33 = .ok (.bipush (-9), 2) := by decide +kernel
theorem dX4_firstRival_35 : decode cX4_firstRival 35 = .ok (.ireturn, 1) := by decide +kernel
set_option maxRecDepth 20000 in
theorem ggX4_sizeOfRivals_X4_leastLack : GoodIn wsX4_sizeOfRivals wsX4_leastLack := goodIn_r _ [7, 1, 2, 8, 9, 10, 11, 12, 13, 14, 15, 16] (by decide +kernel) (by decide +kernel)
set_option maxRecDepth 20000 in
theorem gX4_sizeOfRivals_X4_leastLack : GoodIn wsX4_sizeOfRivals (wsV RX4 36 RX4 yX4_leastLack wsX4_leastLack) := goodIn_app (goodIn_of _ (by decide +kernel)) ggX4_sizeOfRivals_X4_leastLack
theorem dX4_sizeOfRivals_0 : decode cX4_sizeOfRivals 0 = .ok (.aload_n 0, 1) := by decide +kernel
theorem dX4_sizeOfRivals_1 : decode cX4_sizeOfRivals 1 = .ok (.invokevirtual 36, 3) := by decide +kernel
theorem dX4_sizeOfRivals_4 : decode cX4_sizeOfRivals 4 = .ok (.istore_n 1, 1) := by decide +kernel
theorem dX4_sizeOfRivals_5 : decode cX4_sizeOfRivals 5 = .ok (.iconst 0, 1) := by decide +kernel
theorem dX4_sizeOfRivals_6 : decode cX4_sizeOfRivals 6 = .ok (.istore_n 2, 1) := by decide +kernel
theorem dX4_sizeOfRivals_7 : decode cX4_sizeOfRivals 7 = .ok (.iconst 0, 1) := by decide +kernel
theorem dX4_sizeOfRivals_8 : decode cX4_sizeOfRivals 8 = .ok (.istore_n 3, 1) := by decide +kernel
theorem dX4_sizeOfRivals_9 : decode cX4_sizeOfRivals 9 = .ok (.iload_n 3, 1) := by decide +kernel
theorem dX4_sizeOfRivals_10 : decode cX4_sizeOfRivals 10 = .ok (.aload_n 0, 1) := by decide +kernel
theorem dX4_sizeOfRivals_11 : decode cX4_sizeOfRivals 11 = .ok (.getfield 26, 3) := by decide +kernel
theorem dX4_sizeOfRivals_14 : decode cX4_sizeOfRivals 14 = .ok (.if_icmp .ge 22, 3) := by decide +kernel
theorem dX4_sizeOfRivals_17 : decode cX4_sizeOfRivals 17 = .ok (.aload_n 0, 1) := by decide +kernel
theorem dX4_sizeOfRivals_18 : decode cX4_sizeOfRivals 18 = .ok (.getfield 20, 3) := by decide +kernel
theorem dX4_sizeOfRivals_21 : decode cX4_sizeOfRivals 21 = .ok (.iload_n 3, 1) := by decide +kernel
theorem dX4_sizeOfRivals_22 : decode cX4_sizeOfRivals 22 = .ok (.iaload, 1) := by decide +kernel
theorem dX4_sizeOfRivals_23 : decode cX4_sizeOfRivals 23 = .ok (.iload_n 1, 1) := by decide +kernel
theorem dX4_sizeOfRivals_24 : decode cX4_sizeOfRivals 24 = .ok (.if_icmp .ne 6, 3) := by decide +kernel
theorem dX4_sizeOfRivals_27 : decode cX4_sizeOfRivals 27 = .ok (.iinc 2 1, 3) := by decide +kernel
theorem dX4_sizeOfRivals_30 : decode cX4_sizeOfRivals 30 = .ok (.iinc 3 1, 3) := by decide +kernel
theorem dX4_sizeOfRivals_33 : decode cX4_sizeOfRivals 33 = .ok (.goto (-24), 3) := by decide +kernel
theorem dX4_sizeOfRivals_36 : decode cX4_sizeOfRivals 36 = .ok (.iload_n 2, 1) := by decide +kernel
theorem dX4_sizeOfRivals_37 : decode cX4_sizeOfRivals 37 = .ok (.ireturn, 1) := by decide +kernel
set_option maxRecDepth 20000 in
theorem ggX5_init_J7_fill_53178 : GoodIn wsX5_init wsJ7_fill_53178 := goodIn_r _ [12] (by decide +kernel) (by decide +kernel)
set_option maxRecDepth 20000 in
theorem gX5_init_J7_fill_53178 : GoodIn wsX5_init (va_wsS RX5 18 yJ7_fill_53178 wsJ7_fill_53178) := goodIn_app (goodIn_of _ (by decide +kernel)) ggX5_init_J7_fill_53178
theorem dX5_init_0 : decode cX5_init 0 = .ok (.aload_n 0, 1) := by decide +kernel
theorem dX5_init_1 : decode cX5_init 1 = .ok (.invokespecial 1, 3) := by decide +kernel
theorem dX5_init_4 : decode cX5_init 4 = .ok (.aload_n 0, 1) := by decide +kernel
theorem dX5_init_5 : decode cX5_init 5 = .ok (.iconst 4, 1) := by decide +kernel
theorem dX5_init_6 : decode cX5_init 6 = .ok (.bipush 10, 2) := by decide +kernel
theorem dX5_init_8 : decode cX5_init 8 = .ok (.multianewarray 9 2, 4) := by decide +kernel
theorem dX5_init_12 : decode cX5_init 12 = .ok (.putfield 11, 3) := by decide +kernel
theorem dX5_init_15 : decode cX5_init 15 = .ok (.aload_n 0, 1) := by decide +kernel
theorem dX5_init_16 : decode cX5_init 16 = .ok (.iconst 4, 1) := by decide +kernel
theorem dX5_init_17 : decode cX5_init 17 = .ok (.newarray .int, 2) := by decide +kernel
theorem dX5_init_19 : decode cX5_init 19 = .ok (.putfield 14, 3) := by decide +kernel
theorem dX5_init_22 : decode cX5_init 22 = .ok (.aload_n 0, 1) := by decide +kernel
theorem dX5_init_23 : decode cX5_init 23 = .ok (.getfield 14, 3) := by decide +kernel
theorem dX5_init_26 : decode cX5_init 26 = .ok (.iconst (-1), 1) := by decide +kernel
theorem dX5_init_27 : decode cX5_init 27 = .ok (.invokestatic 18, 3) := by decide +kernel
theorem dX5_init_30 : decode cX5_init 30 = .ok (.return_, 1) := by decide +kernel
theorem dX5_isNumber_0 : decode cX5_isNumber 0 = .ok (.iload_n 0, 1) := by decide +kernel
theorem dX5_isNumber_1 : decode cX5_isNumber 1 = .ok (.ifCond .lt 12, 3) := by decide +kernel
theorem dX5_isNumber_4 : decode cX5_isNumber 4 = .ok (.iload_n 0, 1) := by decide +kernel
theorem dX5_isNumber_5 : decode cX5_isNumber 5 = .ok (.iconst 4, 1) := by decide +kernel
theorem dX5_isNumber_6 : decode cX5_isNumber 6 = .ok (.if_icmp .ge 7, 3) := by decide +kernel
theorem dX5_isNumber_9 : decode cX5_isNumber 9 = .ok (.iconst 1, 1) := by decide +kernel
theorem dX5_isNumber_10 : decode cX5_isNumber 10 = .ok (.goto 4, 3) := by decide +kernel
theorem dX5_isNumber_13 : decode cX5_isNumber 13 = .ok (.iconst 0, 1) := by decide +kernel
theorem dX5_isNumber_14 : decode cX5_isNumber 14 = .ok (.ireturn, 1) := by decide +kernel
theorem dX5_isThere_0 : decode cX5_isThere 0 = .ok (.aload_n 0, 1) := by decide +kernel
theorem dX5_isThere_1 : decode cX5_isThere 1 = .ok (.getfield 14, 3) := by decide +kernel
theorem dX5_isThere_4 : decode cX5_isThere 4 = .ok (.iload_n 1, 1) := by decide +kernel
theorem dX5_isThere_5 : decode cX5_isThere 5 = .ok (.iaload, 1) := by decide +kernel
theorem dX5_isThere_6 : decode cX5_isThere 6 = .ok (.iconst (-1), 1) := by decide +kernel
theorem dX5_isThere_7 : decode cX5_isThere 7 = .ok (.if_icmp .eq 7, 3) := by decide +kernel
theorem dX5_isThere_10 : decode cX5_isThere 10 = .ok (.iconst 1, 1) := by decide +kernel
theorem dX5_isThere_11 : decode cX5_isThere 11 = .ok (.goto 4, 3) := by decide +kernel
theorem dX5_isThere_14 : decode cX5_isThere 14 = .ok (.iconst 0, 1) := by decide +kernel
theorem dX5_isThere_15 : decode cX5_isThere 15 = .ok (.ireturn, 1) := by decide +kernel
theorem dX5_hasRun_0 : decode cX5_hasRun 0 = .ok (.iload_n 2, 1) := by decide +kernel
theorem dX5_hasRun_1 : decode cX5_hasRun 1 = .ok (.ifCond .lt 29, 3) := by decide +kernel
theorem dX5_hasRun_4 : decode cX5_hasRun 4 = .ok (.iload_n 3, 1) := by decide +kernel
theorem dX5_hasRun_5 : decode cX5_hasRun 5 = .ok (.aload_n 0, 1) := by decide +kernel
theorem dX5_hasRun_6 : decode cX5_hasRun 6 = .ok (.getfield 14, 3) := by decide +kernel
theorem dX5_hasRun_9 : decode cX5_hasRun 9 = .ok (.iload_n 1, 1) := by decide +kernel
theorem dX5_hasRun_10 : decode cX5_hasRun 10 = .ok (.iaload, 1) := by decide +kernel
theorem dX5_hasRun_11 : decode cX5_hasRun 11 = .ok (.if_icmp .gt 19, 3) := by decide +kernel
theorem dX5_hasRun_14 : decode cX5_hasRun 14 = .ok (.iload_n 2, 1) := by decide +kernel
theorem dX5_hasRun_15 : decode cX5_hasRun 15 = .ok (.aload_n 0, 1) := by decide +kernel
theorem dX5_hasRun_16 : decode cX5_hasRun 16 = .ok (.getfield 14, 3) := by decide +kernel
theorem dX5_hasRun_19 : decode cX5_hasRun 19 = .ok (.iload_n 1, 1) := by decide +kernel
theorem dX5_hasRun_20 : decode cX5_hasRun 20 = .ok (.iaload, 1) := by decide +kernel
theorem dX5_hasRun_21 : decode cX5_hasRun 21 = .ok (.iload_n 3, 1) := by decide +kernel
theorem dX5_hasRun_22 : decode cX5_hasRun 22 = .ok (.isub, 1) := by decide +kernel
theorem dX5_hasRun_23 : decode cX5_hasRun 23 = .ok (.if_icmp .gt 7, 3) := by decide +kernel
theorem dX5_hasRun_26 : decode cX5_hasRun 26 = .ok (.iconst 1, 1) := by decide +kernel
theorem dX5_hasRun_27 : decode cX5_hasRun 27 = .ok (.goto 4, 3) := by decide +kernel
theorem dX5_hasRun_30 : decode cX5_hasRun 30 = .ok (.iconst 0, 1) := by decide +kernel
theorem dX5_hasRun_31 : decode cX5_hasRun 31 = .ok (.ireturn, 1) := by decide +kernel
set_option maxRecDepth 20000 in
theorem ggX5_bring_J7_fill_031fb : GoodIn wsX5_bring wsJ7_fill_031fb := goodIn_r _ [6] (by decide +kernel) (by decide +kernel)
set_option maxRecDepth 20000 in
theorem gX5_bring_J7_fill_031fb : GoodIn wsX5_bring (va_wsS RX5 24 yJ7_fill_031fb wsJ7_fill_031fb) := goodIn_app (goodIn_of _ (by decide +kernel)) ggX5_bring_J7_fill_031fb
theorem dX5_bring_0 : decode cX5_bring 0 = .ok (.aload_n 0, 1) := by decide +kernel
theorem dX5_bring_1 : decode cX5_bring 1 = .ok (.getfield 11, 3) := by decide +kernel
theorem dX5_bring_4 : decode cX5_bring 4 = .ok (.iload_n 1, 1) := by decide +kernel
theorem dX5_bring_5 : decode cX5_bring 5 = .ok (.aaload, 1) := by decide +kernel
theorem dX5_bring_6 : decode cX5_bring 6 = .ok (.bipush 97, 2) := by decide +kernel
theorem dX5_bring_8 : decode cX5_bring 8 = .ok (.invokestatic 24, 3) := by decide +kernel
theorem dX5_bring_11 : decode cX5_bring 11 = .ok (.aload_n 0, 1) := by decide +kernel
theorem dX5_bring_12 : decode cX5_bring 12 = .ok (.getfield 14, 3) := by decide +kernel
theorem dX5_bring_15 : decode cX5_bring 15 = .ok (.iload_n 1, 1) := by decide +kernel
theorem dX5_bring_16 : decode cX5_bring 16 = .ok (.iload_n 2, 1) := by decide +kernel
theorem dX5_bring_17 : decode cX5_bring 17 = .ok (.iastore, 1) := by decide +kernel
theorem dX5_bring_18 : decode cX5_bring 18 = .ok (.return_, 1) := by decide +kernel
theorem dX5_remove_0 : decode cX5_remove 0 = .ok (.aload_n 0, 1) := by decide +kernel
theorem dX5_remove_1 : decode cX5_remove 1 = .ok (.getfield 14, 3) := by decide +kernel
theorem dX5_remove_4 : decode cX5_remove 4 = .ok (.iload_n 1, 1) := by decide +kernel
theorem dX5_remove_5 : decode cX5_remove 5 = .ok (.iconst (-1), 1) := by decide +kernel
theorem dX5_remove_6 : decode cX5_remove 6 = .ok (.iastore, 1) := by decide +kernel
theorem dX5_remove_7 : decode cX5_remove 7 = .ok (.return_, 1) := by decide +kernel
theorem dX5_changeByte_0 : decode cX5_changeByte 0 = .ok (.aload_n 0, 1) := by decide +kernel
theorem dX5_changeByte_1 : decode cX5_changeByte 1 = .ok (.getfield 11, 3) := by decide +kernel
theorem dX5_changeByte_4 : decode cX5_changeByte 4 = .ok (.iload_n 1, 1) := by decide +kernel
theorem dX5_changeByte_5 : decode cX5_changeByte 5 = .ok (.aaload, 1) := by decide +kernel
theorem dX5_changeByte_6 : decode cX5_changeByte 6 = .ok (.iload_n 2, 1) := by decide +kernel
theorem dX5_changeByte_7 : decode cX5_changeByte 7 = .ok (.baload, 1) := by decide +kernel
theorem dX5_changeByte_8 : decode cX5_changeByte 8 = .ok (.istore 4, 2) := by decide +kernel
theorem dX5_changeByte_10 : decode cX5_changeByte 10 = .ok (.aload_n 0, 1) := by decide +kernel
theorem dX5_changeByte_11 : decode cX5_changeByte 11 = .ok (.getfield 11, 3) := by decide +kernel
theorem dX5_changeByte_14 : decode cX5_changeByte 14 = .ok (.iload_n 1, 1) := by decide +kernel
theorem dX5_changeByte_15 : decode cX5_changeByte 15 = .ok (.aaload, 1) := by decide +kernel
theorem dX5_changeByte_16 : decode cX5_changeByte 16 = .ok (.iload_n 2, 1) := by decide +kernel
theorem dX5_changeByte_17 : decode cX5_changeByte 17 = .ok (.iload_n 3, 1) := by decide +kernel
theorem dX5_changeByte_18 : decode cX5_changeByte 18 = .ok (.i2b, 1) := by decide +kernel
theorem dX5_changeByte_19 : decode cX5_changeByte 19 = .ok (.bastore, 1) := by decide +kernel
theorem dX5_changeByte_20 : decode cX5_changeByte 20 = .ok (.iload 4, 2) := by decide +kernel
theorem dX5_changeByte_22 : decode cX5_changeByte 22 = .ok (.ireturn, 1) := by decide +kernel
theorem dX5_carry_0 : decode cX5_carry 0 = .ok (.aload_n 0, 1) := by decide +kernel
theorem dX5_carry_1 : decode cX5_carry 1 = .ok (.getfield 11, 3) := by decide +kernel
theorem dX5_carry_4 : decode cX5_carry 4 = .ok (.iload_n 1, 1) := by decide +kernel
theorem dX5_carry_5 : decode cX5_carry 5 = .ok (.aaload, 1) := by decide +kernel
theorem dX5_carry_6 : decode cX5_carry 6 = .ok (.iload_n 2, 1) := by decide +kernel
theorem dX5_carry_7 : decode cX5_carry 7 = .ok (.aload_n 0, 1) := by decide +kernel
theorem dX5_carry_8 : decode cX5_carry 8 = .ok (.getfield 11, 3) := by decide +kernel
theorem dX5_carry_11 : decode cX5_carry 11 = .ok (.iload_n 3, 1) := by decide +kernel
theorem dX5_carry_12 : decode cX5_carry 12 = .ok (.aaload, 1) := by decide +kernel
theorem dX5_carry_13 : decode cX5_carry 13 = .ok (.iload 4, 2) := by decide +kernel
theorem dX5_carry_15 : decode cX5_carry 15 = .ok (.iload 5, 2) := by decide +kernel
theorem dX5_carry_17 : decode cX5_carry 17 = .ok (.invokestatic 27, 3) := by decide +kernel
theorem dX5_carry_20 : decode cX5_carry 20 = .ok (.return_, 1) := by decide +kernel
theorem dX5_digestFrom_0 : decode cX5_digestFrom 0 = .ok (.lload_n 1, 1) := by decide +kernel
theorem dX5_digestFrom_1 : decode cX5_digestFrom 1 = .ok (.lstore_n 3, 1) := by decide +kernel
theorem dX5_digestFrom_2 : decode cX5_digestFrom 2 = .ok (.iconst 0, 1) := by decide +kernel
theorem dX5_digestFrom_3 : decode cX5_digestFrom 3 = .ok (.istore 5, 2) := by decide +kernel
theorem dX5_digestFrom_5 : decode cX5_digestFrom 5 = .ok (.iload 5, 2) := by decide +kernel
theorem dX5_digestFrom_7 : decode cX5_digestFrom 7 = .ok (.iconst 4, 1) := by decide +kernel
theorem dX5_digestFrom_8 : decode cX5_digestFrom 8 = .ok (.if_icmp .ge 63, 3) := by decide +kernel
theorem dX5_digestFrom_11 : decode cX5_digestFrom 11 = .ok (.ldc2_w 33, 3) := by decide +kernel
theorem dX5_digestFrom_14 : decode cX5_digestFrom 14 = .ok (.lload_n 3, 1) := by decide +kernel
theorem dX5_digestFrom_15 : decode cX5_digestFrom 15 = .ok (.lmul, 1) := by decide +kernel
theorem dX5_digestFrom_16 : decode cX5_digestFrom 16 = .ok (.aload_n 0, 1) := by decide +kernel
theorem dX5_digestFrom_17 : decode cX5_digestFrom 17 = .ok (.getfield 14, 3) := by decide +kernel
theorem dX5_digestFrom_20 : decode cX5_digestFrom 20 = .ok (.iload 5, 2) := by decide +kernel
theorem dX5_digestFrom_22 : decode cX5_digestFrom 22 = .ok (.iaload, 1) := by decide +kernel
theorem dX5_digestFrom_23 : decode cX5_digestFrom 23 = .ok (.i2l, 1) := by decide +kernel
theorem dX5_digestFrom_24 : decode cX5_digestFrom 24 = .ok (.ladd, 1) := by decide +kernel
theorem dX5_digestFrom_25 : decode cX5_digestFrom 25 = .ok (.lstore_n 3, 1) := by decide +kernel
theorem dX5_digestFrom_26 : decode cX5_digestFrom 26 = .ok (.iconst 0, 1) := by decide +kernel
theorem dX5_digestFrom_27 : decode cX5_digestFrom 27 = .ok (.istore 6, 2) := by decide +kernel
theorem dX5_digestFrom_29 : decode cX5_digestFrom 29 = .ok (.iload 6, 2) := by decide +kernel
theorem dX5_digestFrom_31 : decode cX5_digestFrom 31 = .ok (.aload_n 0, 1) := by decide +kernel
theorem dX5_digestFrom_32 : decode cX5_digestFrom 32 = .ok (.getfield 14, 3) := by decide +kernel
theorem dX5_digestFrom_35 : decode cX5_digestFrom 35 = .ok (.iload 5, 2) := by decide +kernel
theorem dX5_digestFrom_37 : decode cX5_digestFrom 37 = .ok (.iaload, 1) := by decide +kernel
theorem dX5_digestFrom_38 : decode cX5_digestFrom 38 = .ok (.if_icmp .ge 27, 3) := by decide +kernel
theorem dX5_digestFrom_41 : decode cX5_digestFrom 41 = .ok (.ldc2_w 33, 3) := by decide +kernel
theorem dX5_digestFrom_44 : decode cX5_digestFrom 44 = .ok (.lload_n 3, 1) := by decide +kernel
theorem dX5_digestFrom_45 : decode cX5_digestFrom 45 = .ok (.lmul, 1) := by decide +kernel
theorem dX5_digestFrom_46 : decode cX5_digestFrom 46 = .ok (.aload_n 0, 1) := by decide +kernel
theorem dX5_digestFrom_47 : decode cX5_digestFrom 47 = .ok (.getfield 11, 3) := by decide +kernel
theorem dX5_digestFrom_50 : decode cX5_digestFrom 50 = .ok (.iload 5, 2) := by decide +kernel
theorem dX5_digestFrom_52 : decode cX5_digestFrom 52 = .ok (.aaload, 1) := by decide +kernel
theorem dX5_digestFrom_53 : decode cX5_digestFrom 53 = .ok (.iload 6, 2) := by decide +kernel
theorem dX5_digestFrom_55 : decode cX5_digestFrom 55 = .ok (.baload, 1) := by decide +kernel
theorem dX5_digestFrom_56 : decode cX5_digestFrom 56 = .ok (.i2l, 1) := by decide +kernel
theorem dX5_digestFrom_57 : decode cX5_digestFrom 57 = .ok (.ladd, 1) := by decide +kernel
theorem dX5_digestFrom_58 : decode cX5_digestFrom 58 = .ok (.lstore_n 3, 1) := by decide +kernel
theorem dX5_digestFrom_59 : decode cX5_digestFrom 59 = .ok (.iinc 6 1, 3) := by decide +kernel
theorem dX5_digestFrom_62 : decode cX5_digestFrom 62 = .ok (.goto (-33), 3) := by decide +kernel
theorem dX5_digestFrom_65 : decode cX5_digestFrom 65 = .ok (.iinc 5 1, 3) := by decide +kernel
theorem dX5_digestFrom_68 : decode cX5_digestFrom 68 = .ok (.goto (-63), 3) := by decide +kernel
theorem dX5_digestFrom_71 : decode cX5_digestFrom 71 = .ok (.lload_n 3, 1) := by decide +kernel
theorem dX5_digestFrom_72 : decode cX5_digestFrom 72 = .ok (.lreturn, 1) := by decide +kernel
theorem dX6_init_0 : decode cX6_init 0 = .ok (.aload_n 0, 1) := by decide +kernel
theorem dX6_init_1 : decode cX6_init 1 = .ok (.invokespecial 3, 3) := by decide +kernel
theorem dX6_init_4 : decode cX6_init 4 = .ok (.aload_n 0, 1) := by decide +kernel
theorem dX6_init_5 : decode cX6_init 5 = .ok (.bipush 8, 2) := by decide +kernel
theorem dX6_init_7 : decode cX6_init 7 = .ok (.newarray .int, 2) := by decide +kernel
theorem dX6_init_9 : decode cX6_init 9 = .ok (.putfield 11, 3) := by decide +kernel
theorem dX6_init_12 : decode cX6_init 12 = .ok (.aload_n 0, 1) := by decide +kernel
theorem dX6_init_13 : decode cX6_init 13 = .ok (.bipush 8, 2) := by decide +kernel
theorem dX6_init_15 : decode cX6_init 15 = .ok (.newarray .int, 2) := by decide +kernel
theorem dX6_init_17 : decode cX6_init 17 = .ok (.putfield 15, 3) := by decide +kernel
theorem dX6_init_20 : decode cX6_init 20 = .ok (.aload_n 0, 1) := by decide +kernel
theorem dX6_init_21 : decode cX6_init 21 = .ok (.bipush 8, 2) := by decide +kernel
theorem dX6_init_23 : decode cX6_init 23 = .ok (.newarray .int, 2) := by decide +kernel
theorem dX6_init_25 : decode cX6_init 25 = .ok (.putfield 18, 3) := by decide +kernel
theorem dX6_init_28 : decode cX6_init 28 = .ok (.aload_n 0, 1) := by decide +kernel
theorem dX6_init_29 : decode cX6_init 29 = .ok (.iconst 1, 1) := by decide +kernel
theorem dX6_init_30 : decode cX6_init 30 = .ok (.putfield 21, 3) := by decide +kernel
theorem dX6_init_33 : decode cX6_init 33 = .ok (.aload_n 0, 1) := by decide +kernel
theorem dX6_init_34 : decode cX6_init 34 = .ok (.sipush 1900, 3) := by decide +kernel
theorem dX6_init_37 : decode cX6_init 37 = .ok (.putfield 25, 3) := by decide +kernel
theorem dX6_init_40 : decode cX6_init 40 = .ok (.return_, 1) := by decide +kernel
theorem dX6_isNumber_0 : decode cX6_isNumber 0 = .ok (.iload_n 0, 1) := by decide +kernel
theorem dX6_isNumber_1 : decode cX6_isNumber 1 = .ok (.iconst 1, 1) := by decide +kernel
theorem dX6_isNumber_2 : decode cX6_isNumber 2 = .ok (.if_icmp .lt 14, 3) := by decide +kernel
theorem dX6_isNumber_5 : decode cX6_isNumber 5 = .ok (.iload_n 0, 1) := by decide +kernel
theorem dX6_isNumber_6 : decode cX6_isNumber 6 = .ok (.sipush 200, 3) := by decide +kernel
theorem dX6_isNumber_9 : decode cX6_isNumber 9 = .ok (.if_icmp .gt 7, 3) := by decide +kernel
theorem dX6_isNumber_12 : decode cX6_isNumber 12 = .ok (.iconst 1, 1) := by decide +kernel
theorem dX6_isNumber_13 : decode cX6_isNumber 13 = .ok (.goto 4, 3) := by decide +kernel
theorem dX6_isNumber_16 : decode cX6_isNumber 16 = .ok (.iconst 0, 1) := by decide +kernel
theorem dX6_isNumber_17 : decode cX6_isNumber 17 = .ok (.ireturn, 1) := by decide +kernel
theorem dX6_isYear_0 : decode cX6_isYear 0 = .ok (.iload_n 0, 1) := by decide +kernel
theorem dX6_isYear_1 : decode cX6_isYear 1 = .ok (.sipush 1700, 3) := by decide +kernel
theorem dX6_isYear_4 : decode cX6_isYear 4 = .ok (.if_icmp .lt 14, 3) := by decide +kernel
theorem dX6_isYear_7 : decode cX6_isYear 7 = .ok (.iload_n 0, 1) := by decide +kernel
theorem dX6_isYear_8 : decode cX6_isYear 8 = .ok (.sipush 2100, 3) := by decide +kernel
theorem dX6_isYear_11 : decode cX6_isYear 11 = .ok (.if_icmp .gt 7, 3) := by decide +kernel
theorem dX6_isYear_14 : decode cX6_isYear 14 = .ok (.iconst 1, 1) := by decide +kernel
theorem dX6_isYear_15 : decode cX6_isYear 15 = .ok (.goto 4, 3) := by decide +kernel
theorem dX6_isYear_18 : decode cX6_isYear 18 = .ok (.iconst 0, 1) := by decide +kernel
theorem dX6_isYear_19 : decode cX6_isYear 19 = .ok (.ireturn, 1) := by decide +kernel
theorem dX6_isFull_0 : decode cX6_isFull 0 = .ok (.aload_n 0, 1) := by decide +kernel
theorem dX6_isFull_1 : decode cX6_isFull 1 = .ok (.getfield 28, 3) := by decide +kernel
theorem dX6_isFull_4 : decode cX6_isFull 4 = .ok (.bipush 8, 2) := by decide +kernel
theorem dX6_isFull_6 : decode cX6_isFull 6 = .ok (.if_icmp .lt 7, 3) := by decide +kernel
theorem dX6_isFull_9 : decode cX6_isFull 9 = .ok (.iconst 1, 1) := by decide +kernel
theorem dX6_isFull_10 : decode cX6_isFull 10 = .ok (.goto 4, 3) := by decide +kernel
theorem dX6_isFull_13 : decode cX6_isFull 13 = .ok (.iconst 0, 1) := by decide +kernel
theorem dX6_isFull_14 : decode cX6_isFull 14 = .ok (.ireturn, 1) := by decide +kernel
theorem dX6_latestYear_0 : decode cX6_latestYear 0 = .ok (.aload_n 0, 1) := by decide +kernel
theorem dX6_latestYear_1 : decode cX6_latestYear 1 = .ok (.getfield 28, 3) := by decide +kernel
theorem dX6_latestYear_4 : decode cX6_latestYear 4 = .ok (.ifCond .le 17, 3) := by decide +kernel
theorem dX6_latestYear_7 : decode cX6_latestYear 7 = .ok (.aload_n 0, 1) := by decide +kernel
theorem dX6_latestYear_8 : decode cX6_latestYear 8 = .ok (.getfield 11, 3) := by decide +kernel
theorem dX6_latestYear_11 : decode cX6_latestYear 11 = .ok (.aload_n 0, 1) := by decide +kernel
theorem dX6_latestYear_12 : decode cX6_latestYear 12 = .ok (.getfield 28, 3) := by decide +kernel
theorem dX6_latestYear_15 : decode cX6_latestYear 15 = .ok (.iconst 1, 1) := by decide +kernel
theorem dX6_latestYear_16 : decode cX6_latestYear 16 = .ok (.isub, 1) := by decide +kernel
theorem dX6_latestYear_17 : decode cX6_latestYear 17 = .ok (.iaload, 1) := by decide +kernel
theorem dX6_latestYear_18 : decode cX6_latestYear 18 = .ok (.goto 6, 3) := by decide +kernel
theorem dX6_latestYear_21 : decode cX6_latestYear 21 = .ok (.sipush 1699, 3) := by decide +kernel
theorem dX6_latestYear_24 : decode cX6_latestYear 24 = .ok (.ireturn, 1) := by decide +kernel
theorem dX6_add_0 : decode cX6_add 0 = .ok (.aload_n 0, 1) := by decide +kernel
theorem dX6_add_1 : decode cX6_add 1 = .ok (.getfield 11, 3) := by decide +kernel
theorem dX6_add_4 : decode cX6_add 4 = .ok (.aload_n 0, 1) := by decide +kernel
theorem dX6_add_5 : decode cX6_add 5 = .ok (.getfield 28, 3) := by decide +kernel
theorem dX6_add_8 : decode cX6_add 8 = .ok (.iload_n 1, 1) := by decide +kernel
theorem dX6_add_9 : decode cX6_add 9 = .ok (.iastore, 1) := by decide +kernel
theorem dX6_add_10 : decode cX6_add 10 = .ok (.aload_n 0, 1) := by decide +kernel
theorem dX6_add_11 : decode cX6_add 11 = .ok (.getfield 15, 3) := by decide +kernel
theorem dX6_add_14 : decode cX6_add 14 = .ok (.aload_n 0, 1) := by decide +kernel
theorem dX6_add_15 : decode cX6_add 15 = .ok (.getfield 28, 3) := by decide +kernel
theorem dX6_add_18 : decode cX6_add 18 = .ok (.iload_n 2, 1) := by decide +kernel
theorem dX6_add_19 : decode cX6_add 19 = .ok (.iastore, 1) := by decide +kernel
theorem dX6_add_20 : decode cX6_add 20 = .ok (.aload_n 0, 1) := by decide +kernel
theorem dX6_add_21 : decode cX6_add 21 = .ok (.getfield 18, 3) := by decide +kernel
theorem dX6_add_24 : decode cX6_add 24 = .ok (.aload_n 0, 1) := by decide +kernel
theorem dX6_add_25 : decode cX6_add 25 = .ok (.getfield 28, 3) := by decide +kernel
theorem dX6_add_28 : decode cX6_add 28 = .ok (.iload_n 3, 1) := by decide +kernel
theorem dX6_add_29 : decode cX6_add 29 = .ok (.iastore, 1) := by decide +kernel
theorem dX6_add_30 : decode cX6_add 30 = .ok (.aload_n 0, 1) := by decide +kernel
theorem dX6_add_31 : decode cX6_add 31 = .ok (.dup, 1) := by decide +kernel
theorem dX6_add_32 : decode cX6_add 32 = .ok (.getfield 28, 3) := by decide +kernel
theorem dX6_add_35 : decode cX6_add 35 = .ok (.iconst 1, 1) := by decide +kernel
theorem dX6_add_36 : decode cX6_add 36 = .ok (.iadd, 1) := by decide +kernel
theorem dX6_add_37 : decode cX6_add 37 = .ok (.putfield 28, 3) := by decide +kernel
theorem dX6_add_40 : decode cX6_add 40 = .ok (.return_, 1) := by decide +kernel
theorem dX6_became_0 : decode cX6_became 0 = .ok (.iload_n 3, 1) := by decide +kernel
theorem dX6_became_1 : decode cX6_became 1 = .ok (.iload_n 2, 1) := by decide +kernel
theorem dX6_became_2 : decode cX6_became 2 = .ok (.if_icmp .ge 6, 3) := by decide +kernel
theorem dX6_became_5 : decode cX6_became 5 = .ok (.bipush (-9), 2) := by decide +kernel
theorem dX6_became_7 : decode cX6_became 7 = .ok (.ireturn, 1) := by decide +kernel
theorem dX6_became_8 : decode cX6_became 8 = .ok (.iload_n 1, 1) := by decide +kernel
theorem dX6_became_9 : decode cX6_became 9 = .ok (.istore 4, 2) := by decide +kernel
theorem dX6_became_11 : decode cX6_became 11 = .ok (.iconst 0, 1) := by decide +kernel
theorem dX6_became_12 : decode cX6_became 12 = .ok (.istore 5, 2) := by decide +kernel
theorem dX6_became_14 : decode cX6_became 14 = .ok (.iload 5, 2) := by decide +kernel
theorem dX6_became_16 : decode cX6_became 16 = .ok (.aload_n 0, 1) := by decide +kernel
theorem dX6_became_17 : decode cX6_became 17 = .ok (.getfield 28, 3) := by decide +kernel
theorem dX6_became_20 : decode cX6_became 20 = .ok (.if_icmp .ge 61, 3) := by decide +kernel
theorem dX6_became_23 : decode cX6_became 23 = .ok (.aload_n 0, 1) := by decide +kernel
theorem dX6_became_24 : decode cX6_became 24 = .ok (.getfield 11, 3) := by decide +kernel
theorem dX6_became_27 : decode cX6_became 27 = .ok (.iload 5, 2) := by decide +kernel
theorem dX6_became_29 : decode cX6_became 29 = .ok (.iaload, 1) := by decide +kernel
theorem dX6_became_30 : decode cX6_became 30 = .ok (.iload_n 2, 1) := by decide +kernel
theorem dX6_became_31 : decode cX6_became 31 = .ok (.if_icmp .le 44, 3) := by decide +kernel
theorem dX6_became_34 : decode cX6_became 34 = .ok (.aload_n 0, 1) := by decide +kernel
theorem dX6_became_35 : decode cX6_became 35 = .ok (.getfield 11, 3) := by decide +kernel
theorem dX6_became_38 : decode cX6_became 38 = .ok (.iload 5, 2) := by decide +kernel
theorem dX6_became_40 : decode cX6_became 40 = .ok (.iaload, 1) := by decide +kernel
theorem dX6_became_41 : decode cX6_became 41 = .ok (.iload_n 3, 1) := by decide +kernel
theorem dX6_became_42 : decode cX6_became 42 = .ok (.if_icmp .gt 33, 3) := by decide +kernel
theorem dX6_became_45 : decode cX6_became 45 = .ok (.iload 4, 2) := by decide +kernel
theorem dX6_became_47 : decode cX6_became 47 = .ok (.aload_n 0, 1) := by decide +kernel
theorem dX6_became_48 : decode cX6_became 48 = .ok (.getfield 15, 3) := by decide +kernel
theorem dX6_became_51 : decode cX6_became 51 = .ok (.iload 5, 2) := by decide +kernel
theorem dX6_became_53 : decode cX6_became 53 = .ok (.iaload, 1) := by decide +kernel
theorem dX6_became_54 : decode cX6_became 54 = .ok (.imul, 1) := by decide +kernel
theorem dX6_became_55 : decode cX6_became 55 = .ok (.aload_n 0, 1) := by decide +kernel
theorem dX6_became_56 : decode cX6_became 56 = .ok (.getfield 18, 3) := by decide +kernel
theorem dX6_became_59 : decode cX6_became 59 = .ok (.iload 5, 2) := by decide +kernel
theorem dX6_became_61 : decode cX6_became 61 = .ok (.iaload, 1) := by decide +kernel
theorem dX6_became_62 : decode cX6_became 62 = .ok (.iadd, 1) := by decide +kernel
theorem dX6_became_63 : decode cX6_became 63 = .ok (.iconst 1, 1) := by decide +kernel
theorem dX6_became_64 : decode cX6_became 64 = .ok (.invokestatic 31, 3) := by decide +kernel
theorem dX6_became_67 : decode cX6_became 67 = .ok (.sipush 200, 3) := by decide +kernel
theorem dX6_became_70 : decode cX6_became 70 = .ok (.invokestatic 37, 3) := by decide +kernel
theorem dX6_became_73 : decode cX6_became 73 = .ok (.istore 4, 2) := by decide +kernel
theorem dX6_became_75 : decode cX6_became 75 = .ok (.iinc 5 1, 3) := by decide +kernel
theorem dX6_became_78 : decode cX6_became 78 = .ok (.goto (-64), 3) := by decide +kernel
theorem dX6_became_81 : decode cX6_became 81 = .ok (.iload 4, 2) := by decide +kernel
theorem dX6_became_83 : decode cX6_became 83 = .ok (.ireturn, 1) := by decide +kernel
theorem dX7_init_0 : decode cX7_init 0 = .ok (.aload_n 0, 1) := by decide +kernel
theorem dX7_init_1 : decode cX7_init 1 = .ok (.invokespecial 1, 3) := by decide +kernel
theorem dX7_init_4 : decode cX7_init 4 = .ok (.aload_n 0, 1) := by decide +kernel
theorem dX7_init_5 : decode cX7_init 5 = .ok (.bipush 12, 2) := by decide +kernel
theorem dX7_init_7 : decode cX7_init 7 = .ok (.newarray .int, 2) := by decide +kernel
theorem dX7_init_9 : decode cX7_init 9 = .ok (.putfield 9, 3) := by decide +kernel
theorem dX7_init_12 : decode cX7_init 12 = .ok (.aload_n 0, 1) := by decide +kernel
theorem dX7_init_13 : decode cX7_init 13 = .ok (.bipush 12, 2) := by decide +kernel
theorem dX7_init_15 : decode cX7_init 15 = .ok (.newarray .int, 2) := by decide +kernel
theorem dX7_init_17 : decode cX7_init 17 = .ok (.putfield 13, 3) := by decide +kernel
theorem dX7_init_20 : decode cX7_init 20 = .ok (.return_, 1) := by decide +kernel
theorem dX7_isFull_0 : decode cX7_isFull 0 = .ok (.aload_n 0, 1) := by decide +kernel
theorem dX7_isFull_1 : decode cX7_isFull 1 = .ok (.getfield 16, 3) := by decide +kernel
theorem dX7_isFull_4 : decode cX7_isFull 4 = .ok (.bipush 12, 2) := by decide +kernel
theorem dX7_isFull_6 : decode cX7_isFull 6 = .ok (.if_icmp .lt 7, 3) := by decide +kernel
theorem dX7_isFull_9 : decode cX7_isFull 9 = .ok (.iconst 1, 1) := by decide +kernel
theorem dX7_isFull_10 : decode cX7_isFull 10 = .ok (.goto 4, 3) := by decide +kernel
theorem dX7_isFull_13 : decode cX7_isFull 13 = .ok (.iconst 0, 1) := by decide +kernel
theorem dX7_isFull_14 : decode cX7_isFull 14 = .ok (.ireturn, 1) := by decide +kernel
theorem dX7_add_0 : decode cX7_add 0 = .ok (.aload_n 0, 1) := by decide +kernel
theorem dX7_add_1 : decode cX7_add 1 = .ok (.getfield 9, 3) := by decide +kernel
theorem dX7_add_4 : decode cX7_add 4 = .ok (.aload_n 0, 1) := by decide +kernel
theorem dX7_add_5 : decode cX7_add 5 = .ok (.getfield 16, 3) := by decide +kernel
theorem dX7_add_8 : decode cX7_add 8 = .ok (.iload_n 1, 1) := by decide +kernel
theorem dX7_add_9 : decode cX7_add 9 = .ok (.iastore, 1) := by decide +kernel
theorem dX7_add_10 : decode cX7_add 10 = .ok (.aload_n 0, 1) := by decide +kernel
theorem dX7_add_11 : decode cX7_add 11 = .ok (.getfield 13, 3) := by decide +kernel
theorem dX7_add_14 : decode cX7_add 14 = .ok (.aload_n 0, 1) := by decide +kernel
theorem dX7_add_15 : decode cX7_add 15 = .ok (.getfield 16, 3) := by decide +kernel
theorem dX7_add_18 : decode cX7_add 18 = .ok (.iload_n 2, 1) := by decide +kernel
theorem dX7_add_19 : decode cX7_add 19 = .ok (.iastore, 1) := by decide +kernel
theorem dX7_add_20 : decode cX7_add 20 = .ok (.iload_n 3, 1) := by decide +kernel
theorem dX7_add_21 : decode cX7_add 21 = .ok (.ifCond .eq 18, 3) := by decide +kernel
theorem dX7_add_24 : decode cX7_add 24 = .ok (.aload_n 0, 1) := by decide +kernel
theorem dX7_add_25 : decode cX7_add 25 = .ok (.dup, 1) := by decide +kernel
theorem dX7_add_26 : decode cX7_add 26 = .ok (.getfield 20, 3) := by decide +kernel
theorem dX7_add_29 : decode cX7_add 29 = .ok (.iconst 1, 1) := by decide +kernel
theorem dX7_add_30 : decode cX7_add 30 = .ok (.aload_n 0, 1) := by decide +kernel
theorem dX7_add_31 : decode cX7_add 31 = .ok (.getfield 16, 3) := by decide +kernel
theorem dX7_add_34 : decode cX7_add 34 = .ok (.ishl, 1) := by decide +kernel
theorem dX7_add_35 : decode cX7_add 35 = .ok (.ior, 1) := by decide +kernel
theorem dX7_add_36 : decode cX7_add 36 = .ok (.putfield 20, 3) := by decide +kernel
theorem dX7_add_39 : decode cX7_add 39 = .ok (.aload_n 0, 1) := by decide +kernel
theorem dX7_add_40 : decode cX7_add 40 = .ok (.dup, 1) := by decide +kernel
theorem dX7_add_41 : decode cX7_add 41 = .ok (.getfield 16, 3) := by decide +kernel
theorem dX7_add_44 : decode cX7_add 44 = .ok (.iconst 1, 1) := by decide +kernel
theorem dX7_add_45 : decode cX7_add 45 = .ok (.iadd, 1) := by decide +kernel
theorem dX7_add_46 : decode cX7_add 46 = .ok (.putfield 16, 3) := by decide +kernel
theorem dX7_add_49 : decode cX7_add 49 = .ok (.aload_n 0, 1) := by decide +kernel
theorem dX7_add_50 : decode cX7_add 50 = .ok (.getfield 16, 3) := by decide +kernel
theorem dX7_add_53 : decode cX7_add 53 = .ok (.iconst 1, 1) := by decide +kernel
theorem dX7_add_54 : decode cX7_add 54 = .ok (.isub, 1) := by decide +kernel
theorem dX7_add_55 : decode cX7_add 55 = .ok (.ireturn, 1) := by decide +kernel
theorem dX7_sumOf_0 : decode cX7_sumOf 0 = .ok (.iconst 0, 1) := by decide +kernel
theorem dX7_sumOf_1 : decode cX7_sumOf 1 = .ok (.istore_n 2, 1) := by decide +kernel
theorem dX7_sumOf_2 : decode cX7_sumOf 2 = .ok (.iconst 0, 1) := by decide +kernel
theorem dX7_sumOf_3 : decode cX7_sumOf 3 = .ok (.istore_n 3, 1) := by decide +kernel
theorem dX7_sumOf_4 : decode cX7_sumOf 4 = .ok (.iload_n 3, 1) := by decide +kernel
theorem dX7_sumOf_5 : decode cX7_sumOf 5 = .ok (.bipush 12, 2) := by decide +kernel
theorem dX7_sumOf_7 : decode cX7_sumOf 7 = .ok (.if_icmp .ge 23, 3) := by decide +kernel
theorem dX7_sumOf_10 : decode cX7_sumOf 10 = .ok (.iload_n 1, 1) := by decide +kernel
theorem dX7_sumOf_11 : decode cX7_sumOf 11 = .ok (.iload_n 3, 1) := by decide +kernel
theorem dX7_sumOf_12 : decode cX7_sumOf 12 = .ok (.ishr, 1) := by decide +kernel
theorem dX7_sumOf_13 : decode cX7_sumOf 13 = .ok (.iconst 1, 1) := by decide +kernel
theorem dX7_sumOf_14 : decode cX7_sumOf 14 = .ok (.iand, 1) := by decide +kernel
theorem dX7_sumOf_15 : decode cX7_sumOf 15 = .ok (.ifCond .eq 9, 3) := by decide +kernel
theorem dX7_sumOf_18 : decode cX7_sumOf 18 = .ok (.iload_n 2, 1) := by decide +kernel
theorem dX7_sumOf_19 : decode cX7_sumOf 19 = .ok (.aload_n 0, 1) := by decide +kernel
theorem dX7_sumOf_20 : decode cX7_sumOf 20 = .ok (.iload_n 3, 1) := by decide +kernel
theorem dX7_sumOf_21 : decode cX7_sumOf 21 = .ok (.iaload, 1) := by decide +kernel
theorem dX7_sumOf_22 : decode cX7_sumOf 22 = .ok (.iadd, 1) := by decide +kernel
theorem dX7_sumOf_23 : decode cX7_sumOf 23 = .ok (.istore_n 2, 1) := by decide +kernel
theorem dX7_sumOf_24 : decode cX7_sumOf 24 = .ok (.iinc 3 1, 3) := by decide +kernel
theorem dX7_sumOf_27 : decode cX7_sumOf 27 = .ok (.goto (-23), 3) := by decide +kernel
theorem dX7_sumOf_30 : decode cX7_sumOf 30 = .ok (.iload_n 2, 1) := by decide +kernel
theorem dX7_sumOf_31 : decode cX7_sumOf 31 = .ok (.ireturn, 1) := by decide +kernel
set_option maxRecDepth 20000 in
theorem ggX7_bestSet_X7_sumOf : GoodIn wsX7_bestSet wsX7_sumOf := goodIn_r _ [8] (by decide +kernel) (by decide +kernel)
set_option maxRecDepth 20000 in
theorem gX7_bestSet_X7_sumOf : GoodIn wsX7_bestSet (va_wsS RX7 23 yX7_sumOf wsX7_sumOf) := goodIn_app (goodIn_of _ (by decide +kernel)) ggX7_bestSet_X7_sumOf
theorem dX7_bestSet_0 : decode cX7_bestSet 0 = .ok (.iconst 0, 1) := by decide +kernel
theorem dX7_bestSet_1 : decode cX7_bestSet 1 = .ok (.istore_n 2, 1) := by decide +kernel
theorem dX7_bestSet_2 : decode cX7_bestSet 2 = .ok (.iconst 0, 1) := by decide +kernel
theorem dX7_bestSet_3 : decode cX7_bestSet 3 = .ok (.istore_n 3, 1) := by decide +kernel
theorem dX7_bestSet_4 : decode cX7_bestSet 4 = .ok (.iconst 0, 1) := by decide +kernel
theorem dX7_bestSet_5 : decode cX7_bestSet 5 = .ok (.istore 4, 2) := by decide +kernel
theorem dX7_bestSet_7 : decode cX7_bestSet 7 = .ok (.iconst 1, 1) := by decide +kernel
theorem dX7_bestSet_8 : decode cX7_bestSet 8 = .ok (.istore 5, 2) := by decide +kernel
theorem dX7_bestSet_10 : decode cX7_bestSet 10 = .ok (.iload 5, 2) := by decide +kernel
theorem dX7_bestSet_12 : decode cX7_bestSet 12 = .ok (.iconst 1, 1) := by decide +kernel
theorem dX7_bestSet_13 : decode cX7_bestSet 13 = .ok (.aload_n 0, 1) := by decide +kernel
theorem dX7_bestSet_14 : decode cX7_bestSet 14 = .ok (.getfield 16, 3) := by decide +kernel
theorem dX7_bestSet_17 : decode cX7_bestSet 17 = .ok (.ishl, 1) := by decide +kernel
theorem dX7_bestSet_18 : decode cX7_bestSet 18 = .ok (.if_icmp .ge 90, 3) := by decide +kernel
theorem dX7_bestSet_21 : decode cX7_bestSet 21 = .ok (.iload 5, 2) := by decide +kernel
theorem dX7_bestSet_23 : decode cX7_bestSet 23 = .ok (.aload_n 0, 1) := by decide +kernel
theorem dX7_bestSet_24 : decode cX7_bestSet 24 = .ok (.getfield 20, 3) := by decide +kernel
theorem dX7_bestSet_27 : decode cX7_bestSet 27 = .ok (.iconst (-1), 1) := by decide +kernel
theorem dX7_bestSet_28 : decode cX7_bestSet 28 = .ok (.ixor, 1) := by decide +kernel
theorem dX7_bestSet_29 : decode cX7_bestSet 29 = .ok (.iand, 1) := by decide +kernel
theorem dX7_bestSet_30 : decode cX7_bestSet 30 = .ok (.ifCond .ne 72, 3) := by decide +kernel
theorem dX7_bestSet_33 : decode cX7_bestSet 33 = .ok (.aload_n 0, 1) := by decide +kernel
theorem dX7_bestSet_34 : decode cX7_bestSet 34 = .ok (.getfield 13, 3) := by decide +kernel
theorem dX7_bestSet_37 : decode cX7_bestSet 37 = .ok (.iload 5, 2) := by decide +kernel
theorem dX7_bestSet_39 : decode cX7_bestSet 39 = .ok (.invokestatic 23, 3) := by decide +kernel
theorem dX7_bestSet_42 : decode cX7_bestSet 42 = .ok (.istore 6, 2) := by decide +kernel
theorem dX7_bestSet_44 : decode cX7_bestSet 44 = .ok (.aload_n 0, 1) := by decide +kernel
theorem dX7_bestSet_45 : decode cX7_bestSet 45 = .ok (.getfield 9, 3) := by decide +kernel
theorem dX7_bestSet_48 : decode cX7_bestSet 48 = .ok (.iload 5, 2) := by decide +kernel
theorem dX7_bestSet_50 : decode cX7_bestSet 50 = .ok (.invokestatic 23, 3) := by decide +kernel
theorem dX7_bestSet_53 : decode cX7_bestSet 53 = .ok (.istore 7, 2) := by decide +kernel
theorem dX7_bestSet_55 : decode cX7_bestSet 55 = .ok (.iload 7, 2) := by decide +kernel
theorem dX7_bestSet_57 : decode cX7_bestSet 57 = .ok (.iload_n 3, 1) := by decide +kernel
theorem dX7_bestSet_58 : decode cX7_bestSet 58 = .ok (.if_icmp .gt 16, 3) := by decide +kernel
theorem dX7_bestSet_61 : decode cX7_bestSet 61 = .ok (.iload 7, 2) := by decide +kernel
theorem dX7_bestSet_63 : decode cX7_bestSet 63 = .ok (.iload_n 3, 1) := by decide +kernel
theorem dX7_bestSet_64 : decode cX7_bestSet 64 = .ok (.if_icmp .ne 14, 3) := by decide +kernel
theorem dX7_bestSet_67 : decode cX7_bestSet 67 = .ok (.iload 6, 2) := by decide +kernel
theorem dX7_bestSet_69 : decode cX7_bestSet 69 = .ok (.iload 4, 2) := by decide +kernel
theorem dX7_bestSet_71 : decode cX7_bestSet 71 = .ok (.if_icmp .ge 7, 3) := by decide +kernel
theorem dX7_bestSet_74 : decode cX7_bestSet 74 = .ok (.iconst 1, 1) := by decide +kernel
theorem dX7_bestSet_75 : decode cX7_bestSet 75 = .ok (.goto 4, 3) := by decide +kernel
theorem dX7_bestSet_78 : decode cX7_bestSet 78 = .ok (.iconst 0, 1) := by decide +kernel
theorem dX7_bestSet_79 : decode cX7_bestSet 79 = .ok (.istore 8, 2) := by decide +kernel
theorem dX7_bestSet_81 : decode cX7_bestSet 81 = .ok (.iload 6, 2) := by decide +kernel
theorem dX7_bestSet_83 : decode cX7_bestSet 83 = .ok (.iload_n 1, 1) := by decide +kernel
theorem dX7_bestSet_84 : decode cX7_bestSet 84 = .ok (.if_icmp .gt 18, 3) := by decide +kernel
theorem dX7_bestSet_87 : decode cX7_bestSet 87 = .ok (.iload 8, 2) := by decide +kernel
theorem dX7_bestSet_89 : decode cX7_bestSet 89 = .ok (.ifCond .eq 13, 3) := by decide +kernel
theorem dX7_bestSet_92 : decode cX7_bestSet 92 = .ok (.iload 5, 2) := by decide +kernel
theorem dX7_bestSet_94 : decode cX7_bestSet 94 = .ok (.istore_n 2, 1) := by decide +kernel
theorem dX7_bestSet_95 : decode cX7_bestSet 95 = .ok (.iload 7, 2) := by decide +kernel
theorem dX7_bestSet_97 : decode cX7_bestSet 97 = .ok (.istore_n 3, 1) := by decide +kernel
theorem dX7_bestSet_98 : decode cX7_bestSet 98 = .ok (.iload 6, 2) := by decide +kernel
theorem dX7_bestSet_100 : decode cX7_bestSet 100 = .ok (.istore 4, 2) := by decide +kernel
theorem dX7_bestSet_102 : decode cX7_bestSet 102 = .ok (.iinc 5 1, 3) := by decide +kernel
theorem dX7_bestSet_105 : decode cX7_bestSet 105 = .ok (.goto (-95), 3) := by decide +kernel
theorem dX7_bestSet_108 : decode cX7_bestSet 108 = .ok (.iload_n 2, 1) := by decide +kernel
theorem dX7_bestSet_109 : decode cX7_bestSet 109 = .ok (.ireturn, 1) := by decide +kernel
theorem dX8_init_0 : decode cX8_init 0 = .ok (.aload_n 0, 1) := by decide +kernel
theorem dX8_init_1 : decode cX8_init 1 = .ok (.invokespecial 3, 3) := by decide +kernel
theorem dX8_init_4 : decode cX8_init 4 = .ok (.aload_n 0, 1) := by decide +kernel
theorem dX8_init_5 : decode cX8_init 5 = .ok (.bipush 26, 2) := by decide +kernel
theorem dX8_init_7 : decode cX8_init 7 = .ok (.newarray .int, 2) := by decide +kernel
theorem dX8_init_9 : decode cX8_init 9 = .ok (.putfield 11, 3) := by decide +kernel
theorem dX8_init_12 : decode cX8_init 12 = .ok (.aload_n 0, 1) := by decide +kernel
theorem dX8_init_13 : decode cX8_init 13 = .ok (.bipush 16, 2) := by decide +kernel
theorem dX8_init_15 : decode cX8_init 15 = .ok (.bipush 8, 2) := by decide +kernel
theorem dX8_init_17 : decode cX8_init 17 = .ok (.multianewarray 15 2, 4) := by decide +kernel
theorem dX8_init_21 : decode cX8_init 21 = .ok (.putfield 17, 3) := by decide +kernel
theorem dX8_init_24 : decode cX8_init 24 = .ok (.aload_n 0, 1) := by decide +kernel
theorem dX8_init_25 : decode cX8_init 25 = .ok (.bipush 16, 2) := by decide +kernel
theorem dX8_init_27 : decode cX8_init 27 = .ok (.newarray .int, 2) := by decide +kernel
theorem dX8_init_29 : decode cX8_init 29 = .ok (.putfield 20, 3) := by decide +kernel
theorem dX8_init_32 : decode cX8_init 32 = .ok (.aload_n 0, 1) := by decide +kernel
theorem dX8_init_33 : decode cX8_init 33 = .ok (.bipush 16, 2) := by decide +kernel
theorem dX8_init_35 : decode cX8_init 35 = .ok (.newarray .int, 2) := by decide +kernel
theorem dX8_init_37 : decode cX8_init 37 = .ok (.putfield 23, 3) := by decide +kernel
theorem dX8_init_40 : decode cX8_init 40 = .ok (.aload_n 0, 1) := by decide +kernel
theorem dX8_init_41 : decode cX8_init 41 = .ok (.bipush 16, 2) := by decide +kernel
theorem dX8_init_43 : decode cX8_init 43 = .ok (.newarray .int, 2) := by decide +kernel
theorem dX8_init_45 : decode cX8_init 45 = .ok (.putfield 26, 3) := by decide +kernel
theorem dX8_init_48 : decode cX8_init 48 = .ok (.aload_n 0, 1) := by decide +kernel
theorem dX8_init_49 : decode cX8_init 49 = .ok (.bipush 16, 2) := by decide +kernel
theorem dX8_init_51 : decode cX8_init 51 = .ok (.newarray .int, 2) := by decide +kernel
theorem dX8_init_53 : decode cX8_init 53 = .ok (.putfield 29, 3) := by decide +kernel
theorem dX8_init_56 : decode cX8_init 56 = .ok (.aload_n 0, 1) := by decide +kernel
theorem dX8_init_57 : decode cX8_init 57 = .ok (.bipush 16, 2) := by decide +kernel
theorem dX8_init_59 : decode cX8_init 59 = .ok (.newarray .int, 2) := by decide +kernel
theorem dX8_init_61 : decode cX8_init 61 = .ok (.putfield 32, 3) := by decide +kernel
theorem dX8_init_64 : decode cX8_init 64 = .ok (.aload_n 0, 1) := by decide +kernel
theorem dX8_init_65 : decode cX8_init 65 = .ok (.bipush 16, 2) := by decide +kernel
theorem dX8_init_67 : decode cX8_init 67 = .ok (.newarray .int, 2) := by decide +kernel
theorem dX8_init_69 : decode cX8_init 69 = .ok (.putfield 35, 3) := by decide +kernel
theorem dX8_init_72 : decode cX8_init 72 = .ok (.aload_n 0, 1) := by decide +kernel
theorem dX8_init_73 : decode cX8_init 73 = .ok (.bipush 16, 2) := by decide +kernel
theorem dX8_init_75 : decode cX8_init 75 = .ok (.newarray .boolean, 2) := by decide +kernel
theorem dX8_init_77 : decode cX8_init 77 = .ok (.putfield 38, 3) := by decide +kernel
theorem dX8_init_80 : decode cX8_init 80 = .ok (.return_, 1) := by decide +kernel
theorem dX8_isLetter_0 : decode cX8_isLetter 0 = .ok (.iload_n 0, 1) := by decide +kernel
theorem dX8_isLetter_1 : decode cX8_isLetter 1 = .ok (.bipush 97, 2) := by decide +kernel
theorem dX8_isLetter_3 : decode cX8_isLetter 3 = .ok (.if_icmp .lt 13, 3) := by decide +kernel
theorem dX8_isLetter_6 : decode cX8_isLetter 6 = .ok (.iload_n 0, 1) := by decide +kernel
theorem dX8_isLetter_7 : decode cX8_isLetter 7 = .ok (.bipush 122, 2) := by decide +kernel
theorem dX8_isLetter_9 : decode cX8_isLetter 9 = .ok (.if_icmp .gt 7, 3) := by decide +kernel
theorem dX8_isLetter_12 : decode cX8_isLetter 12 = .ok (.iconst 1, 1) := by decide +kernel
theorem dX8_isLetter_13 : decode cX8_isLetter 13 = .ok (.goto 4, 3) := by decide +kernel
theorem dX8_isLetter_16 : decode cX8_isLetter 16 = .ok (.iconst 0, 1) := by decide +kernel
theorem dX8_isLetter_17 : decode cX8_isLetter 17 = .ok (.ireturn, 1) := by decide +kernel
set_option maxRecDepth 20000 in
theorem ggX8_lettersIn_X8_isLetter : GoodIn wsX8_lettersIn wsX8_isLetter := goodIn_r _ [4] (by decide +kernel) (by decide +kernel)
set_option maxRecDepth 20000 in
theorem gX8_lettersIn_X8_isLetter : GoodIn wsX8_lettersIn (va_wsS RX8 42 yX8_isLetter wsX8_isLetter) := goodIn_app (goodIn_of _ (by decide +kernel)) ggX8_lettersIn_X8_isLetter
theorem dX8_lettersIn_0 : decode cX8_lettersIn 0 = .ok (.iconst 0, 1) := by decide +kernel
theorem dX8_lettersIn_1 : decode cX8_lettersIn 1 = .ok (.istore_n 2, 1) := by decide +kernel
theorem dX8_lettersIn_2 : decode cX8_lettersIn 2 = .ok (.iconst 0, 1) := by decide +kernel
theorem dX8_lettersIn_3 : decode cX8_lettersIn 3 = .ok (.istore_n 3, 1) := by decide +kernel
theorem dX8_lettersIn_4 : decode cX8_lettersIn 4 = .ok (.iload_n 3, 1) := by decide +kernel
theorem dX8_lettersIn_5 : decode cX8_lettersIn 5 = .ok (.iload_n 1, 1) := by decide +kernel
theorem dX8_lettersIn_6 : decode cX8_lettersIn 6 = .ok (.if_icmp .ge 21, 3) := by decide +kernel
theorem dX8_lettersIn_9 : decode cX8_lettersIn 9 = .ok (.aload_n 0, 1) := by decide +kernel
theorem dX8_lettersIn_10 : decode cX8_lettersIn 10 = .ok (.iload_n 3, 1) := by decide +kernel
theorem dX8_lettersIn_11 : decode cX8_lettersIn 11 = .ok (.baload, 1) := by decide +kernel
theorem dX8_lettersIn_12 : decode cX8_lettersIn 12 = .ok (.invokestatic 42, 3) := by decide +kernel
theorem dX8_lettersIn_15 : decode cX8_lettersIn 15 = .ok (.ifCond .eq 6, 3) := by decide +kernel
theorem dX8_lettersIn_18 : decode cX8_lettersIn 18 = .ok (.iinc 2 1, 3) := by decide +kernel
theorem dX8_lettersIn_21 : decode cX8_lettersIn 21 = .ok (.iinc 3 1, 3) := by decide +kernel
theorem dX8_lettersIn_24 : decode cX8_lettersIn 24 = .ok (.goto (-20), 3) := by decide +kernel
theorem dX8_lettersIn_27 : decode cX8_lettersIn 27 = .ok (.iload_n 2, 1) := by decide +kernel
theorem dX8_lettersIn_28 : decode cX8_lettersIn 28 = .ok (.ireturn, 1) := by decide +kernel
theorem dX8_changeStrokes_0 : decode cX8_changeStrokes 0 = .ok (.aload_n 0, 1) := by decide +kernel
theorem dX8_changeStrokes_1 : decode cX8_changeStrokes 1 = .ok (.getfield 11, 3) := by decide +kernel
theorem dX8_changeStrokes_4 : decode cX8_changeStrokes 4 = .ok (.iload_n 1, 1) := by decide +kernel
theorem dX8_changeStrokes_5 : decode cX8_changeStrokes 5 = .ok (.bipush 97, 2) := by decide +kernel
theorem dX8_changeStrokes_7 : decode cX8_changeStrokes 7 = .ok (.isub, 1) := by decide +kernel
theorem dX8_changeStrokes_8 : decode cX8_changeStrokes 8 = .ok (.iaload, 1) := by decide +kernel
theorem dX8_changeStrokes_9 : decode cX8_changeStrokes 9 = .ok (.istore_n 3, 1) := by decide +kernel
theorem dX8_changeStrokes_10 : decode cX8_changeStrokes 10 = .ok (.aload_n 0, 1) := by decide +kernel
theorem dX8_changeStrokes_11 : decode cX8_changeStrokes 11 = .ok (.getfield 11, 3) := by decide +kernel
theorem dX8_changeStrokes_14 : decode cX8_changeStrokes 14 = .ok (.iload_n 1, 1) := by decide +kernel
theorem dX8_changeStrokes_15 : decode cX8_changeStrokes 15 = .ok (.bipush 97, 2) := by decide +kernel
theorem dX8_changeStrokes_17 : decode cX8_changeStrokes 17 = .ok (.isub, 1) := by decide +kernel
theorem dX8_changeStrokes_18 : decode cX8_changeStrokes 18 = .ok (.iload_n 2, 1) := by decide +kernel
theorem dX8_changeStrokes_19 : decode cX8_changeStrokes 19 = .ok (.iastore, 1) := by decide +kernel
theorem dX8_changeStrokes_20 : decode cX8_changeStrokes 20 = .ok (.iload_n 3, 1) := by decide +kernel
theorem dX8_changeStrokes_21 : decode cX8_changeStrokes 21 = .ok (.ireturn, 1) := by decide +kernel
theorem dX8_isNumber_0 : decode cX8_isNumber 0 = .ok (.iload_n 1, 1) := by decide +kernel
theorem dX8_isNumber_1 : decode cX8_isNumber 1 = .ok (.ifCond .lt 15, 3) := by decide +kernel
theorem dX8_isNumber_4 : decode cX8_isNumber 4 = .ok (.iload_n 1, 1) := by decide +kernel
theorem dX8_isNumber_5 : decode cX8_isNumber 5 = .ok (.aload_n 0, 1) := by decide +kernel
theorem dX8_isNumber_6 : decode cX8_isNumber 6 = .ok (.getfield 46, 3) := by decide +kernel
theorem dX8_isNumber_9 : decode cX8_isNumber 9 = .ok (.if_icmp .ge 7, 3) := by decide +kernel
theorem dX8_isNumber_12 : decode cX8_isNumber 12 = .ok (.iconst 1, 1) := by decide +kernel
theorem dX8_isNumber_13 : decode cX8_isNumber 13 = .ok (.goto 4, 3) := by decide +kernel
theorem dX8_isNumber_16 : decode cX8_isNumber 16 = .ok (.iconst 0, 1) := by decide +kernel
theorem dX8_isNumber_17 : decode cX8_isNumber 17 = .ok (.ireturn, 1) := by decide +kernel
set_option maxRecDepth 20000 in
theorem ggX8_isThere_X8_isNumber : GoodIn wsX8_isThere wsX8_isNumber := goodIn_r _ [6, 7, 8, 9, 10, 11, 12, 13, 14, 15, 16, 17] (by decide +kernel) (by decide +kernel)
set_option maxRecDepth 20000 in
theorem gX8_isThere_X8_isNumber : GoodIn wsX8_isThere (wsV RX8 50 RX8 yX8_isNumber wsX8_isNumber) := goodIn_app (goodIn_of _ (by decide +kernel)) ggX8_isThere_X8_isNumber
theorem dX8_isThere_0 : decode cX8_isThere 0 = .ok (.aload_n 0, 1) := by decide +kernel
theorem dX8_isThere_1 : decode cX8_isThere 1 = .ok (.iload_n 1, 1) := by decide +kernel
theorem dX8_isThere_2 : decode cX8_isThere 2 = .ok (.invokevirtual 50, 3) := by decide +kernel
theorem dX8_isThere_5 : decode cX8_isThere 5 = .ok (.ifCond .eq 16, 3) := by decide +kernel
theorem dX8_isThere_8 : decode cX8_isThere 8 = .ok (.aload_n 0, 1) := by decide +kernel
theorem dX8_isThere_9 : decode cX8_isThere 9 = .ok (.getfield 38, 3) := by decide +kernel
theorem dX8_isThere_12 : decode cX8_isThere 12 = .ok (.iload_n 1, 1) := by decide +kernel
theorem dX8_isThere_13 : decode cX8_isThere 13 = .ok (.baload, 1) := by decide +kernel
theorem dX8_isThere_14 : decode cX8_isThere 14 = .ok (.ifCond .ne 7, 3) := by decide +kernel
theorem dX8_isThere_17 : decode cX8_isThere 17 = .ok (.iconst 1, 1) := by decide +kernel
theorem dX8_isThere_18 : decode cX8_isThere 18 = .ok (.goto 4, 3) := by decide +kernel
theorem dX8_isThere_21 : decode cX8_isThere 21 = .ok (.iconst 0, 1) := by decide +kernel
theorem dX8_isThere_22 : decode cX8_isThere 22 = .ok (.ireturn, 1) := by decide +kernel
theorem dX8_isFull_0 : decode cX8_isFull 0 = .ok (.aload_n 0, 1) := by decide +kernel
theorem dX8_isFull_1 : decode cX8_isFull 1 = .ok (.getfield 46, 3) := by decide +kernel
theorem dX8_isFull_4 : decode cX8_isFull 4 = .ok (.bipush 16, 2) := by decide +kernel
theorem dX8_isFull_6 : decode cX8_isFull 6 = .ok (.if_icmp .lt 7, 3) := by decide +kernel
theorem dX8_isFull_9 : decode cX8_isFull 9 = .ok (.iconst 1, 1) := by decide +kernel
theorem dX8_isFull_10 : decode cX8_isFull 10 = .ok (.goto 4, 3) := by decide +kernel
theorem dX8_isFull_13 : decode cX8_isFull 13 = .ok (.iconst 0, 1) := by decide +kernel
theorem dX8_isFull_14 : decode cX8_isFull 14 = .ok (.ireturn, 1) := by decide +kernel
theorem dX8_isOf_0 : decode cX8_isOf 0 = .ok (.aload_n 0, 1) := by decide +kernel
theorem dX8_isOf_1 : decode cX8_isOf 1 = .ok (.getfield 23, 3) := by decide +kernel
theorem dX8_isOf_4 : decode cX8_isOf 4 = .ok (.iload_n 1, 1) := by decide +kernel
theorem dX8_isOf_5 : decode cX8_isOf 5 = .ok (.iaload, 1) := by decide +kernel
theorem dX8_isOf_6 : decode cX8_isOf 6 = .ok (.iload_n 2, 1) := by decide +kernel
theorem dX8_isOf_7 : decode cX8_isOf 7 = .ok (.if_icmp .eq 18, 3) := by decide +kernel
theorem dX8_isOf_10 : decode cX8_isOf 10 = .ok (.iload_n 2, 1) := by decide +kernel
theorem dX8_isOf_11 : decode cX8_isOf 11 = .ok (.iconst 1, 1) := by decide +kernel
theorem dX8_isOf_12 : decode cX8_isOf 12 = .ok (.if_icmp .ne 17, 3) := by decide +kernel
theorem dX8_isOf_15 : decode cX8_isOf 15 = .ok (.aload_n 0, 1) := by decide +kernel
theorem dX8_isOf_16 : decode cX8_isOf 16 = .ok (.getfield 23, 3) := by decide +kernel
theorem dX8_isOf_19 : decode cX8_isOf 19 = .ok (.iload_n 1, 1) := by decide +kernel
theorem dX8_isOf_20 : decode cX8_isOf 20 = .ok (.iaload, 1) := by decide +kernel
theorem dX8_isOf_21 : decode cX8_isOf 21 = .ok (.iconst 2, 1) := by decide +kernel
theorem dX8_isOf_22 : decode cX8_isOf 22 = .ok (.if_icmp .ne 7, 3) := by decide +kernel
theorem dX8_isOf_25 : decode cX8_isOf 25 = .ok (.iconst 1, 1) := by decide +kernel
theorem dX8_isOf_26 : decode cX8_isOf 26 = .ok (.goto 4, 3) := by decide +kernel
theorem dX8_isOf_29 : decode cX8_isOf 29 = .ok (.iconst 0, 1) := by decide +kernel
theorem dX8_isOf_30 : decode cX8_isOf 30 = .ok (.ireturn, 1) := by decide +kernel
set_option maxRecDepth 20000 in
theorem ggX8_add_X8_isLetter : GoodIn wsX8_add wsX8_isLetter := goodIn_r _ [9] (by decide +kernel) (by decide +kernel)
set_option maxRecDepth 20000 in
theorem gX8_add_X8_isLetter : GoodIn wsX8_add (va_wsS RX8 42 yX8_isLetter wsX8_isLetter) := goodIn_app (goodIn_of _ (by decide +kernel)) ggX8_add_X8_isLetter
set_option maxRecDepth 20000 in
theorem ggX8_add_X8_settle : GoodIn wsX8_add wsX8_settle := goodIn_r _ [13, 14, 15, 16, 17, 18, 19, 20, 21, 22, 23, 24, 25, 26] (by decide +kernel) (by decide +kernel)
set_option maxRecDepth 20000 in
theorem gX8_add_X8_settle : GoodIn wsX8_add (wsV RX8 53 RX8 yX8_settle wsX8_settle) := goodIn_app (goodIn_of _ (by decide +kernel)) ggX8_add_X8_settle
theorem dX8_add_0 : decode cX8_add 0 = .ok (.aload_n 0, 1) := by decide +kernel
theorem dX8_add_1 : decode cX8_add 1 = .ok (.getfield 46, 3) := by decide +kernel
theorem dX8_add_4 : decode cX8_add 4 = .ok (.istore 5, 2) := by decide +kernel
theorem dX8_add_6 : decode cX8_add 6 = .ok (.iconst 0, 1) := by decide +kernel
theorem dX8_add_7 : decode cX8_add 7 = .ok (.istore 6, 2) := by decide +kernel
theorem dX8_add_9 : decode cX8_add 9 = .ok (.iconst 0, 1) := by decide +kernel
theorem dX8_add_10 : decode cX8_add 10 = .ok (.istore 7, 2) := by decide +kernel
theorem dX8_add_12 : decode cX8_add 12 = .ok (.iload 7, 2) := by decide +kernel
theorem dX8_add_14 : decode cX8_add 14 = .ok (.iload_n 2, 1) := by decide +kernel
theorem dX8_add_15 : decode cX8_add 15 = .ok (.if_icmp .ge 43, 3) := by decide +kernel
theorem dX8_add_18 : decode cX8_add 18 = .ok (.iload 6, 2) := by decide +kernel
theorem dX8_add_20 : decode cX8_add 20 = .ok (.bipush 8, 2) := by decide +kernel
theorem dX8_add_22 : decode cX8_add 22 = .ok (.if_icmp .ge 36, 3) := by decide +kernel
theorem dX8_add_25 : decode cX8_add 25 = .ok (.aload_n 1, 1) := by decide +kernel
theorem dX8_add_26 : decode cX8_add 26 = .ok (.iload 7, 2) := by decide +kernel
theorem dX8_add_28 : decode cX8_add 28 = .ok (.baload, 1) := by decide +kernel
theorem dX8_add_29 : decode cX8_add 29 = .ok (.invokestatic 42, 3) := by decide +kernel
theorem dX8_add_32 : decode cX8_add 32 = .ok (.ifCond .eq 20, 3) := by decide +kernel
theorem dX8_add_35 : decode cX8_add 35 = .ok (.aload_n 0, 1) := by decide +kernel
theorem dX8_add_36 : decode cX8_add 36 = .ok (.getfield 17, 3) := by decide +kernel
theorem dX8_add_39 : decode cX8_add 39 = .ok (.iload 5, 2) := by decide +kernel
theorem dX8_add_41 : decode cX8_add 41 = .ok (.aaload, 1) := by decide +kernel
theorem dX8_add_42 : decode cX8_add 42 = .ok (.iload 6, 2) := by decide +kernel
theorem dX8_add_44 : decode cX8_add 44 = .ok (.aload_n 1, 1) := by decide +kernel
theorem dX8_add_45 : decode cX8_add 45 = .ok (.iload 7, 2) := by decide +kernel
theorem dX8_add_47 : decode cX8_add 47 = .ok (.baload, 1) := by decide +kernel
theorem dX8_add_48 : decode cX8_add 48 = .ok (.bastore, 1) := by decide +kernel
theorem dX8_add_49 : decode cX8_add 49 = .ok (.iinc 6 1, 3) := by decide +kernel
theorem dX8_add_52 : decode cX8_add 52 = .ok (.iinc 7 1, 3) := by decide +kernel
theorem dX8_add_55 : decode cX8_add 55 = .ok (.goto (-43), 3) := by decide +kernel
theorem dX8_add_58 : decode cX8_add 58 = .ok (.aload_n 0, 1) := by decide +kernel
theorem dX8_add_59 : decode cX8_add 59 = .ok (.getfield 20, 3) := by decide +kernel
theorem dX8_add_62 : decode cX8_add 62 = .ok (.iload 5, 2) := by decide +kernel
theorem dX8_add_64 : decode cX8_add 64 = .ok (.iload 6, 2) := by decide +kernel
theorem dX8_add_66 : decode cX8_add 66 = .ok (.iastore, 1) := by decide +kernel
theorem dX8_add_67 : decode cX8_add 67 = .ok (.aload_n 0, 1) := by decide +kernel
theorem dX8_add_68 : decode cX8_add 68 = .ok (.getfield 23, 3) := by decide +kernel
theorem dX8_add_71 : decode cX8_add 71 = .ok (.iload 5, 2) := by decide +kernel
theorem dX8_add_73 : decode cX8_add 73 = .ok (.iload_n 3, 1) := by decide +kernel
theorem dX8_add_74 : decode cX8_add 74 = .ok (.iastore, 1) := by decide +kernel
theorem dX8_add_75 : decode cX8_add 75 = .ok (.aload_n 0, 1) := by decide +kernel
theorem dX8_add_76 : decode cX8_add 76 = .ok (.getfield 26, 3) := by decide +kernel
theorem dX8_add_79 : decode cX8_add 79 = .ok (.iload 5, 2) := by decide +kernel
theorem dX8_add_81 : decode cX8_add 81 = .ok (.iload 4, 2) := by decide +kernel
theorem dX8_add_83 : decode cX8_add 83 = .ok (.iastore, 1) := by decide +kernel
theorem dX8_add_84 : decode cX8_add 84 = .ok (.aload_n 0, 1) := by decide +kernel
theorem dX8_add_85 : decode cX8_add 85 = .ok (.iload 5, 2) := by decide +kernel
theorem dX8_add_87 : decode cX8_add 87 = .ok (.bipush (-9), 2) := by decide +kernel
theorem dX8_add_89 : decode cX8_add 89 = .ok (.bipush (-9), 2) := by decide +kernel
theorem dX8_add_91 : decode cX8_add 91 = .ok (.bipush (-9), 2) := by decide +kernel
theorem dX8_add_93 : decode cX8_add 93 = .ok (.invokevirtual 53, 3) := by decide +kernel
theorem dX8_add_96 : decode cX8_add 96 = .ok (.aload_n 0, 1) := by decide +kernel
theorem dX8_add_97 : decode cX8_add 97 = .ok (.dup, 1) := by decide +kernel
theorem dX8_add_98 : decode cX8_add 98 = .ok (.getfield 46, 3) := by decide +kernel
theorem dX8_add_101 : decode cX8_add 101 = .ok (.iconst 1, 1) := by decide +kernel
theorem dX8_add_102 : decode cX8_add 102 = .ok (.iadd, 1) := by decide +kernel
theorem dX8_add_103 : decode cX8_add 103 = .ok (.putfield 46, 3) := by decide +kernel
theorem dX8_add_106 : decode cX8_add 106 = .ok (.iload 5, 2) := by decide +kernel
theorem dX8_add_108 : decode cX8_add 108 = .ok (.ireturn, 1) := by decide +kernel
theorem dX8_settle_0 : decode cX8_settle 0 = .ok (.aload_n 0, 1) := by decide +kernel
theorem dX8_settle_1 : decode cX8_settle 1 = .ok (.getfield 29, 3) := by decide +kernel
theorem dX8_settle_4 : decode cX8_settle 4 = .ok (.iload_n 1, 1) := by decide +kernel
theorem dX8_settle_5 : decode cX8_settle 5 = .ok (.iload_n 2, 1) := by decide +kernel
theorem dX8_settle_6 : decode cX8_settle 6 = .ok (.iastore, 1) := by decide +kernel
theorem dX8_settle_7 : decode cX8_settle 7 = .ok (.aload_n 0, 1) := by decide +kernel
theorem dX8_settle_8 : decode cX8_settle 8 = .ok (.getfield 32, 3) := by decide +kernel
theorem dX8_settle_11 : decode cX8_settle 11 = .ok (.iload_n 1, 1) := by decide +kernel
theorem dX8_settle_12 : decode cX8_settle 12 = .ok (.iload_n 3, 1) := by decide +kernel
theorem dX8_settle_13 : decode cX8_settle 13 = .ok (.iastore, 1) := by decide +kernel
theorem dX8_settle_14 : decode cX8_settle 14 = .ok (.aload_n 0, 1) := by decide +kernel
theorem dX8_settle_15 : decode cX8_settle 15 = .ok (.getfield 35, 3) := by decide +kernel
theorem dX8_settle_18 : decode cX8_settle 18 = .ok (.iload_n 1, 1) := by decide +kernel
theorem dX8_settle_19 : decode cX8_settle 19 = .ok (.iload 4, 2) := by decide +kernel
theorem dX8_settle_21 : decode cX8_settle 21 = .ok (.iastore, 1) := by decide +kernel
theorem dX8_settle_22 : decode cX8_settle 22 = .ok (.return_, 1) := by decide +kernel
theorem dX8_sizeOfHouse_0 : decode cX8_sizeOfHouse 0 = .ok (.iconst 0, 1) := by decide +kernel
theorem dX8_sizeOfHouse_1 : decode cX8_sizeOfHouse 1 = .ok (.istore_n 2, 1) := by decide +kernel
theorem dX8_sizeOfHouse_2 : decode cX8_sizeOfHouse 2 = .ok (.iconst 0, 1) := by decide +kernel
theorem dX8_sizeOfHouse_3 : decode cX8_sizeOfHouse 3 = .ok (.istore_n 3, 1) := by decide +kernel
theorem dX8_sizeOfHouse_4 : decode cX8_sizeOfHouse 4 = .ok (.iload_n 3, 1) := by decide +kernel
theorem dX8_sizeOfHouse_5 : decode cX8_sizeOfHouse 5 = .ok (.aload_n 0, 1) := by decide +kernel
theorem dX8_sizeOfHouse_6 : decode cX8_sizeOfHouse 6 = .ok (.getfield 46, 3) := by decide +kernel
theorem dX8_sizeOfHouse_9 : decode cX8_sizeOfHouse 9 = .ok (.if_icmp .ge 31, 3) := by decide +kernel
theorem dX8_sizeOfHouse_12 : decode cX8_sizeOfHouse 12 = .ok (.aload_n 0, 1) := by decide +kernel
theorem dX8_sizeOfHouse_13 : decode cX8_sizeOfHouse 13 = .ok (.getfield 38, 3) := by decide +kernel
theorem dX8_sizeOfHouse_16 : decode cX8_sizeOfHouse 16 = .ok (.iload_n 3, 1) := by decide +kernel
theorem dX8_sizeOfHouse_17 : decode cX8_sizeOfHouse 17 = .ok (.baload, 1) := by decide +kernel
theorem dX8_sizeOfHouse_18 : decode cX8_sizeOfHouse 18 = .ok (.ifCond .ne 16, 3) := by decide +kernel
theorem dX8_sizeOfHouse_21 : decode cX8_sizeOfHouse 21 = .ok (.aload_n 0, 1) := by decide +kernel
theorem dX8_sizeOfHouse_22 : decode cX8_sizeOfHouse 22 = .ok (.getfield 26, 3) := by decide +kernel
theorem dX8_sizeOfHouse_25 : decode cX8_sizeOfHouse 25 = .ok (.iload_n 3, 1) := by decide +kernel
theorem dX8_sizeOfHouse_26 : decode cX8_sizeOfHouse 26 = .ok (.iaload, 1) := by decide +kernel
theorem dX8_sizeOfHouse_27 : decode cX8_sizeOfHouse 27 = .ok (.iload_n 1, 1) := by decide +kernel
theorem dX8_sizeOfHouse_28 : decode cX8_sizeOfHouse 28 = .ok (.if_icmp .ne 6, 3) := by decide +kernel
theorem dX8_sizeOfHouse_31 : decode cX8_sizeOfHouse 31 = .ok (.iinc 2 1, 3) := by decide +kernel
theorem dX8_sizeOfHouse_34 : decode cX8_sizeOfHouse 34 = .ok (.iinc 3 1, 3) := by decide +kernel
theorem dX8_sizeOfHouse_37 : decode cX8_sizeOfHouse 37 = .ok (.goto (-33), 3) := by decide +kernel
theorem dX8_sizeOfHouse_40 : decode cX8_sizeOfHouse 40 = .ok (.iload_n 2, 1) := by decide +kernel
theorem dX8_sizeOfHouse_41 : decode cX8_sizeOfHouse 41 = .ok (.ireturn, 1) := by decide +kernel
theorem dX8_founderOf_0 : decode cX8_founderOf 0 = .ok (.iload_n 1, 1) := by decide +kernel
theorem dX8_founderOf_1 : decode cX8_founderOf 1 = .ok (.istore_n 2, 1) := by decide +kernel
theorem dX8_founderOf_2 : decode cX8_founderOf 2 = .ok (.iconst 0, 1) := by decide +kernel
theorem dX8_founderOf_3 : decode cX8_founderOf 3 = .ok (.istore_n 3, 1) := by decide +kernel
theorem dX8_founderOf_4 : decode cX8_founderOf 4 = .ok (.iload_n 3, 1) := by decide +kernel
theorem dX8_founderOf_5 : decode cX8_founderOf 5 = .ok (.bipush 16, 2) := by decide +kernel
theorem dX8_founderOf_7 : decode cX8_founderOf 7 = .ok (.if_icmp .ge 26, 3) := by decide +kernel
theorem dX8_founderOf_10 : decode cX8_founderOf 10 = .ok (.aload_n 0, 1) := by decide +kernel
theorem dX8_founderOf_11 : decode cX8_founderOf 11 = .ok (.getfield 23, 3) := by decide +kernel
theorem dX8_founderOf_14 : decode cX8_founderOf 14 = .ok (.iload_n 2, 1) := by decide +kernel
theorem dX8_founderOf_15 : decode cX8_founderOf 15 = .ok (.iaload, 1) := by decide +kernel
theorem dX8_founderOf_16 : decode cX8_founderOf 16 = .ok (.iconst 2, 1) := by decide +kernel
theorem dX8_founderOf_17 : decode cX8_founderOf 17 = .ok (.if_icmp .ne 16, 3) := by decide +kernel
theorem dX8_founderOf_20 : decode cX8_founderOf 20 = .ok (.aload_n 0, 1) := by decide +kernel
theorem dX8_founderOf_21 : decode cX8_founderOf 21 = .ok (.getfield 26, 3) := by decide +kernel
theorem dX8_founderOf_24 : decode cX8_founderOf 24 = .ok (.iload_n 2, 1) := by decide +kernel
theorem dX8_founderOf_25 : decode cX8_founderOf 25 = .ok (.iaload, 1) := by decide +kernel
theorem dX8_founderOf_26 : decode cX8_founderOf 26 = .ok (.istore_n 2, 1) := by decide +kernel
theorem dX8_founderOf_27 : decode cX8_founderOf 27 = .ok (.iinc 3 1, 3) := by decide +kernel
theorem dX8_founderOf_30 : decode cX8_founderOf 30 = .ok (.goto (-26), 3) := by decide +kernel
theorem dX8_founderOf_33 : decode cX8_founderOf 33 = .ok (.iload_n 2, 1) := by decide +kernel
theorem dX8_founderOf_34 : decode cX8_founderOf 34 = .ok (.ireturn, 1) := by decide +kernel
theorem dX8_sizeThere_0 : decode cX8_sizeThere 0 = .ok (.iconst 0, 1) := by decide +kernel
theorem dX8_sizeThere_1 : decode cX8_sizeThere 1 = .ok (.istore_n 1, 1) := by decide +kernel
theorem dX8_sizeThere_2 : decode cX8_sizeThere 2 = .ok (.iconst 0, 1) := by decide +kernel
theorem dX8_sizeThere_3 : decode cX8_sizeThere 3 = .ok (.istore_n 2, 1) := by decide +kernel
theorem dX8_sizeThere_4 : decode cX8_sizeThere 4 = .ok (.iload_n 2, 1) := by decide +kernel
theorem dX8_sizeThere_5 : decode cX8_sizeThere 5 = .ok (.aload_n 0, 1) := by decide +kernel
theorem dX8_sizeThere_6 : decode cX8_sizeThere 6 = .ok (.getfield 46, 3) := by decide +kernel
theorem dX8_sizeThere_9 : decode cX8_sizeThere 9 = .ok (.if_icmp .ge 21, 3) := by decide +kernel
theorem dX8_sizeThere_12 : decode cX8_sizeThere 12 = .ok (.aload_n 0, 1) := by decide +kernel
theorem dX8_sizeThere_13 : decode cX8_sizeThere 13 = .ok (.getfield 38, 3) := by decide +kernel
theorem dX8_sizeThere_16 : decode cX8_sizeThere 16 = .ok (.iload_n 2, 1) := by decide +kernel
theorem dX8_sizeThere_17 : decode cX8_sizeThere 17 = .ok (.baload, 1) := by decide +kernel
theorem dX8_sizeThere_18 : decode cX8_sizeThere 18 = .ok (.ifCond .ne 6, 3) := by decide +kernel
theorem dX8_sizeThere_21 : decode cX8_sizeThere 21 = .ok (.iinc 1 1, 3) := by decide +kernel
theorem dX8_sizeThere_24 : decode cX8_sizeThere 24 = .ok (.iinc 2 1, 3) := by decide +kernel
theorem dX8_sizeThere_27 : decode cX8_sizeThere 27 = .ok (.goto (-23), 3) := by decide +kernel
theorem dX8_sizeThere_30 : decode cX8_sizeThere 30 = .ok (.iload_n 1, 1) := by decide +kernel
theorem dX8_sizeThere_31 : decode cX8_sizeThere 31 = .ok (.ireturn, 1) := by decide +kernel
theorem dX8_lettersThere_0 : decode cX8_lettersThere 0 = .ok (.iconst 0, 1) := by decide +kernel
theorem dX8_lettersThere_1 : decode cX8_lettersThere 1 = .ok (.istore_n 1, 1) := by decide +kernel
theorem dX8_lettersThere_2 : decode cX8_lettersThere 2 = .ok (.iconst 0, 1) := by decide +kernel
theorem dX8_lettersThere_3 : decode cX8_lettersThere 3 = .ok (.istore_n 2, 1) := by decide +kernel
theorem dX8_lettersThere_4 : decode cX8_lettersThere 4 = .ok (.iload_n 2, 1) := by decide +kernel
theorem dX8_lettersThere_5 : decode cX8_lettersThere 5 = .ok (.aload_n 0, 1) := by decide +kernel
theorem dX8_lettersThere_6 : decode cX8_lettersThere 6 = .ok (.getfield 46, 3) := by decide +kernel
theorem dX8_lettersThere_9 : decode cX8_lettersThere 9 = .ok (.if_icmp .ge 27, 3) := by decide +kernel
theorem dX8_lettersThere_12 : decode cX8_lettersThere 12 = .ok (.aload_n 0, 1) := by decide +kernel
theorem dX8_lettersThere_13 : decode cX8_lettersThere 13 = .ok (.getfield 38, 3) := by decide +kernel
theorem dX8_lettersThere_16 : decode cX8_lettersThere 16 = .ok (.iload_n 2, 1) := by decide +kernel
theorem dX8_lettersThere_17 : decode cX8_lettersThere 17 = .ok (.baload, 1) := by decide +kernel
theorem dX8_lettersThere_18 : decode cX8_lettersThere 18 = .ok (.ifCond .ne 12, 3) := by decide +kernel
theorem dX8_lettersThere_21 : decode cX8_lettersThere 21 = .ok (.iload_n 1, 1) := by decide +kernel
theorem dX8_lettersThere_22 : decode cX8_lettersThere 22 = .ok (.aload_n 0, 1) := by decide +kernel
theorem dX8_lettersThere_23 : decode cX8_lettersThere 23 = .ok (.getfield 20, 3) := by decide +kernel
theorem dX8_lettersThere_26 : decode cX8_lettersThere 26 = .ok (.iload_n 2, 1) := by decide +kernel
theorem dX8_lettersThere_27 : decode cX8_lettersThere 27 = .ok (.iaload, 1) := by decide +kernel
theorem dX8_lettersThere_28 : decode cX8_lettersThere 28 = .ok (.iadd, 1) := by decide +kernel
theorem dX8_lettersThere_29 : decode cX8_lettersThere 29 = .ok (.istore_n 1, 1) := by decide +kernel
theorem dX8_lettersThere_30 : decode cX8_lettersThere 30 = .ok (.iinc 2 1, 3) := by decide +kernel
theorem dX8_lettersThere_33 : decode cX8_lettersThere 33 = .ok (.goto (-29), 3) := by decide +kernel
theorem dX8_lettersThere_36 : decode cX8_lettersThere 36 = .ok (.iload_n 1, 1) := by decide +kernel
theorem dX8_lettersThere_37 : decode cX8_lettersThere 37 = .ok (.ireturn, 1) := by decide +kernel
set_option maxRecDepth 20000 in
theorem ggX8_factOf_X8_sizeInCells : GoodIn wsX8_factOf wsX8_sizeInCells := goodIn_r _ [10, 11, 12, 13, 9, 14, 2, 15, 16, 17, 18, 19, 20, 21, 22, 23, 24, 25, 26, 27, 28, 29, 30, 31, 32, 33] (by decide +kernel) (by decide +kernel)
set_option maxRecDepth 20000 in
theorem gX8_factOf_X8_sizeInCells : GoodIn wsX8_factOf (wsV RX8 57 RX8 yX8_sizeInCells wsX8_sizeInCells) := goodIn_app (goodIn_of _ (by decide +kernel)) ggX8_factOf_X8_sizeInCells
theorem dX8_factOf_0 : decode cX8_factOf 0 = .ok (.iload_n 2, 1) := by decide +kernel
theorem dX8_factOf_1 : decode cX8_factOf 1 = .ok (.tableswitch 69 0 4 #[35, 42, 49, 55, 62], 35) := by decide +kernel
theorem dX8_factOf_36 : decode cX8_factOf 36 = .ok (.aload_n 0, 1) := by decide +kernel
theorem dX8_factOf_37 : decode cX8_factOf 37 = .ok (.getfield 23, 3) := by decide +kernel
theorem dX8_factOf_40 : decode cX8_factOf 40 = .ok (.iload_n 1, 1) := by decide +kernel
theorem dX8_factOf_41 : decode cX8_factOf 41 = .ok (.iaload, 1) := by decide +kernel
theorem dX8_factOf_42 : decode cX8_factOf 42 = .ok (.ireturn, 1) := by decide +kernel
theorem dX8_factOf_43 : decode cX8_factOf 43 = .ok (.aload_n 0, 1) := by decide +kernel
theorem dX8_factOf_44 : decode cX8_factOf 44 = .ok (.getfield 20, 3) := by decide +kernel
theorem dX8_factOf_47 : decode cX8_factOf 47 = .ok (.iload_n 1, 1) := by decide +kernel
theorem dX8_factOf_48 : decode cX8_factOf 48 = .ok (.iaload, 1) := by decide +kernel
theorem dX8_factOf_49 : decode cX8_factOf 49 = .ok (.ireturn, 1) := by decide +kernel
theorem dX8_factOf_50 : decode cX8_factOf 50 = .ok (.aload_n 0, 1) := by decide +kernel
theorem dX8_factOf_51 : decode cX8_factOf 51 = .ok (.iload_n 1, 1) := by decide +kernel
theorem dX8_factOf_52 : decode cX8_factOf 52 = .ok (.invokevirtual 57, 3) := by decide +kernel
theorem dX8_factOf_55 : decode cX8_factOf 55 = .ok (.ireturn, 1) := by decide +kernel
theorem dX8_factOf_56 : decode cX8_factOf 56 = .ok (.aload_n 0, 1) := by decide +kernel
theorem dX8_factOf_57 : decode cX8_factOf 57 = .ok (.getfield 32, 3) := by decide +kernel
theorem dX8_factOf_60 : decode cX8_factOf 60 = .ok (.iload_n 1, 1) := by decide +kernel
theorem dX8_factOf_61 : decode cX8_factOf 61 = .ok (.iaload, 1) := by decide +kernel
theorem dX8_factOf_62 : decode cX8_factOf 62 = .ok (.ireturn, 1) := by decide +kernel
theorem dX8_factOf_63 : decode cX8_factOf 63 = .ok (.aload_n 0, 1) := by decide +kernel
theorem dX8_factOf_64 : decode cX8_factOf 64 = .ok (.getfield 35, 3) := by decide +kernel
theorem dX8_factOf_67 : decode cX8_factOf 67 = .ok (.iload_n 1, 1) := by decide +kernel
theorem dX8_factOf_68 : decode cX8_factOf 68 = .ok (.iaload, 1) := by decide +kernel
theorem dX8_factOf_69 : decode cX8_factOf 69 = .ok (.ireturn, 1) := by decide +kernel
theorem dX8_factOf_70 : decode cX8_factOf 70 = .ok (.aload_n 0, 1) := by decide +kernel
theorem dX8_factOf_71 : decode cX8_factOf 71 = .ok (.getfield 29, 3) := by decide +kernel
theorem dX8_factOf_74 : decode cX8_factOf 74 = .ok (.iload_n 1, 1) := by decide +kernel
theorem dX8_factOf_75 : decode cX8_factOf 75 = .ok (.iaload, 1) := by decide +kernel
theorem dX8_factOf_76 : decode cX8_factOf 76 = .ok (.ireturn, 1) := by decide +kernel
set_option maxRecDepth 20000 in
theorem ggX8_sizeInCells_X8_cellsIn : GoodIn wsX8_sizeInCells wsX8_cellsIn := goodIn_r _ [5, 6, 7, 8, 16, 17, 18, 19, 20, 21, 22, 23, 24, 25] (by decide +kernel) (by decide +kernel)
set_option maxRecDepth 20000 in
theorem gX8_sizeInCells_X8_cellsIn : GoodIn wsX8_sizeInCells (wsV RX8 61 RX8 yX8_cellsIn wsX8_cellsIn) := goodIn_app (goodIn_of _ (by decide +kernel)) ggX8_sizeInCells_X8_cellsIn
set_option maxRecDepth 20000 in
theorem ggX8_sizeInCells_J6_bitCount_0f7a4 : GoodIn wsX8_sizeInCells wsJ6_bitCount_0f7a4 := goodIn_r _ [12, 13, 14, 15] (by decide +kernel) (by decide +kernel)
set_option maxRecDepth 20000 in
theorem gX8_sizeInCells_J6_bitCount_0f7a4 : GoodIn wsX8_sizeInCells (va_wsS RX8 65 yJ6_bitCount_0f7a4 wsJ6_bitCount_0f7a4) := goodIn_app (goodIn_of _ (by decide +kernel)) ggX8_sizeInCells_J6_bitCount_0f7a4
theorem dX8_sizeInCells_0 : decode cX8_sizeInCells 0 = .ok (.iconst 0, 1) := by decide +kernel
theorem dX8_sizeInCells_1 : decode cX8_sizeInCells 1 = .ok (.istore_n 2, 1) := by decide +kernel
theorem dX8_sizeInCells_2 : decode cX8_sizeInCells 2 = .ok (.iconst 0, 1) := by decide +kernel
theorem dX8_sizeInCells_3 : decode cX8_sizeInCells 3 = .ok (.istore_n 3, 1) := by decide +kernel
theorem dX8_sizeInCells_4 : decode cX8_sizeInCells 4 = .ok (.iload_n 3, 1) := by decide +kernel
theorem dX8_sizeInCells_5 : decode cX8_sizeInCells 5 = .ok (.bipush 8, 2) := by decide +kernel
theorem dX8_sizeInCells_7 : decode cX8_sizeInCells 7 = .ok (.if_icmp .ge 22, 3) := by decide +kernel
theorem dX8_sizeInCells_10 : decode cX8_sizeInCells 10 = .ok (.iload_n 2, 1) := by decide +kernel
theorem dX8_sizeInCells_11 : decode cX8_sizeInCells 11 = .ok (.aload_n 0, 1) := by decide +kernel
theorem dX8_sizeInCells_12 : decode cX8_sizeInCells 12 = .ok (.iload_n 1, 1) := by decide +kernel
theorem dX8_sizeInCells_13 : decode cX8_sizeInCells 13 = .ok (.iconst 0, 1) := by decide +kernel
theorem dX8_sizeInCells_14 : decode cX8_sizeInCells 14 = .ok (.iload_n 3, 1) := by decide +kernel
theorem dX8_sizeInCells_15 : decode cX8_sizeInCells 15 = .ok (.invokevirtual 61, 3) := by decide +kernel
theorem dX8_sizeInCells_18 : decode cX8_sizeInCells 18 = .ok (.invokestatic 65, 3) := by decide +kernel
theorem dX8_sizeInCells_21 : decode cX8_sizeInCells 21 = .ok (.iadd, 1) := by decide +kernel
theorem dX8_sizeInCells_22 : decode cX8_sizeInCells 22 = .ok (.istore_n 2, 1) := by decide +kernel
theorem dX8_sizeInCells_23 : decode cX8_sizeInCells 23 = .ok (.iinc 3 1, 3) := by decide +kernel
theorem dX8_sizeInCells_26 : decode cX8_sizeInCells 26 = .ok (.goto (-22), 3) := by decide +kernel
theorem dX8_sizeInCells_29 : decode cX8_sizeInCells 29 = .ok (.iload_n 2, 1) := by decide +kernel
theorem dX8_sizeInCells_30 : decode cX8_sizeInCells 30 = .ok (.ireturn, 1) := by decide +kernel
theorem dX8_isOnLine_0 : decode cX8_isOnLine 0 = .ok (.iload_n 2, 1) := by decide +kernel
theorem dX8_isOnLine_1 : decode cX8_isOnLine 1 = .ok (.ifCond .lt 20, 3) := by decide +kernel
theorem dX8_isOnLine_4 : decode cX8_isOnLine 4 = .ok (.iload_n 2, 1) := by decide +kernel
theorem dX8_isOnLine_5 : decode cX8_isOnLine 5 = .ok (.bipush 10, 2) := by decide +kernel
theorem dX8_isOnLine_7 : decode cX8_isOnLine 7 = .ok (.aload_n 0, 1) := by decide +kernel
theorem dX8_isOnLine_8 : decode cX8_isOnLine 8 = .ok (.getfield 20, 3) := by decide +kernel
theorem dX8_isOnLine_11 : decode cX8_isOnLine 11 = .ok (.iload_n 1, 1) := by decide +kernel
theorem dX8_isOnLine_12 : decode cX8_isOnLine 12 = .ok (.iaload, 1) := by decide +kernel
theorem dX8_isOnLine_13 : decode cX8_isOnLine 13 = .ok (.isub, 1) := by decide +kernel
theorem dX8_isOnLine_14 : decode cX8_isOnLine 14 = .ok (.if_icmp .gt 7, 3) := by decide +kernel
theorem dX8_isOnLine_17 : decode cX8_isOnLine 17 = .ok (.iconst 1, 1) := by decide +kernel
theorem dX8_isOnLine_18 : decode cX8_isOnLine 18 = .ok (.goto 4, 3) := by decide +kernel
theorem dX8_isOnLine_21 : decode cX8_isOnLine 21 = .ok (.iconst 0, 1) := by decide +kernel
theorem dX8_isOnLine_22 : decode cX8_isOnLine 22 = .ok (.ireturn, 1) := by decide +kernel
theorem dX8_cellsIn_0 : decode cX8_cellsIn 0 = .ok (.iload_n 3, 1) := by decide +kernel
theorem dX8_cellsIn_1 : decode cX8_cellsIn 1 = .ok (.iload_n 2, 1) := by decide +kernel
theorem dX8_cellsIn_2 : decode cX8_cellsIn 2 = .ok (.isub, 1) := by decide +kernel
theorem dX8_cellsIn_3 : decode cX8_cellsIn 3 = .ok (.istore 4, 2) := by decide +kernel
theorem dX8_cellsIn_5 : decode cX8_cellsIn 5 = .ok (.iload 4, 2) := by decide +kernel
theorem dX8_cellsIn_7 : decode cX8_cellsIn 7 = .ok (.ifCond .lt 14, 3) := by decide +kernel
theorem dX8_cellsIn_10 : decode cX8_cellsIn 10 = .ok (.iload 4, 2) := by decide +kernel
theorem dX8_cellsIn_12 : decode cX8_cellsIn 12 = .ok (.aload_n 0, 1) := by decide +kernel
theorem dX8_cellsIn_13 : decode cX8_cellsIn 13 = .ok (.getfield 20, 3) := by decide +kernel
theorem dX8_cellsIn_16 : decode cX8_cellsIn 16 = .ok (.iload_n 1, 1) := by decide +kernel
theorem dX8_cellsIn_17 : decode cX8_cellsIn 17 = .ok (.iaload, 1) := by decide +kernel
theorem dX8_cellsIn_18 : decode cX8_cellsIn 18 = .ok (.if_icmp .lt 5, 3) := by decide +kernel
theorem dX8_cellsIn_21 : decode cX8_cellsIn 21 = .ok (.iconst 0, 1) := by decide +kernel
theorem dX8_cellsIn_22 : decode cX8_cellsIn 22 = .ok (.ireturn, 1) := by decide +kernel
theorem dX8_cellsIn_23 : decode cX8_cellsIn 23 = .ok (.aload_n 0, 1) := by decide +kernel
theorem dX8_cellsIn_24 : decode cX8_cellsIn 24 = .ok (.getfield 11, 3) := by decide +kernel
theorem dX8_cellsIn_27 : decode cX8_cellsIn 27 = .ok (.aload_n 0, 1) := by decide +kernel
theorem dX8_cellsIn_28 : decode cX8_cellsIn 28 = .ok (.getfield 17, 3) := by decide +kernel
theorem dX8_cellsIn_31 : decode cX8_cellsIn 31 = .ok (.iload_n 1, 1) := by decide +kernel
theorem dX8_cellsIn_32 : decode cX8_cellsIn 32 = .ok (.aaload, 1) := by decide +kernel
theorem dX8_cellsIn_33 : decode cX8_cellsIn 33 = .ok (.iload 4, 2) := by decide +kernel
theorem dX8_cellsIn_35 : decode cX8_cellsIn 35 = .ok (.baload, 1) := by decide +kernel
theorem dX8_cellsIn_36 : decode cX8_cellsIn 36 = .ok (.bipush 97, 2) := by decide +kernel
theorem dX8_cellsIn_38 : decode cX8_cellsIn 38 = .ok (.isub, 1) := by decide +kernel
theorem dX8_cellsIn_39 : decode cX8_cellsIn 39 = .ok (.iaload, 1) := by decide +kernel
theorem dX8_cellsIn_40 : decode cX8_cellsIn 40 = .ok (.ireturn, 1) := by decide +kernel
set_option maxRecDepth 20000 in
theorem ggX8_digestFrom_X8_factOf : GoodIn wsX8_digestFrom wsX8_factOf := goodIn_r _ [8, 9, 10, 11, 12, 13, 14, 15, 16, 7, 17, 18, 19, 20, 21, 22, 23, 24, 25, 26, 27, 28, 29, 30, 31, 32, 33, 34, 35, 36, 37, 38, 39, 40] (by decide +kernel) (by decide +kernel)
set_option maxRecDepth 20000 in
theorem gX8_digestFrom_X8_factOf : GoodIn wsX8_digestFrom (wsV RX8 72 RX8 yX8_factOf wsX8_factOf) := goodIn_app (goodIn_of _ (by decide +kernel)) ggX8_digestFrom_X8_factOf
theorem dX8_digestFrom_0 : decode cX8_digestFrom 0 = .ok (.lload_n 1, 1) := by decide +kernel
theorem dX8_digestFrom_1 : decode cX8_digestFrom 1 = .ok (.lstore_n 3, 1) := by decide +kernel
theorem dX8_digestFrom_2 : decode cX8_digestFrom 2 = .ok (.iconst 0, 1) := by decide +kernel
theorem dX8_digestFrom_3 : decode cX8_digestFrom 3 = .ok (.istore 5, 2) := by decide +kernel
theorem dX8_digestFrom_5 : decode cX8_digestFrom 5 = .ok (.iload 5, 2) := by decide +kernel
theorem dX8_digestFrom_7 : decode cX8_digestFrom 7 = .ok (.aload_n 0, 1) := by decide +kernel
theorem dX8_digestFrom_8 : decode cX8_digestFrom 8 = .ok (.getfield 46, 3) := by decide +kernel
theorem dX8_digestFrom_11 : decode cX8_digestFrom 11 = .ok (.if_icmp .ge 61, 3) := by decide +kernel
theorem dX8_digestFrom_14 : decode cX8_digestFrom 14 = .ok (.aload_n 0, 1) := by decide +kernel
theorem dX8_digestFrom_15 : decode cX8_digestFrom 15 = .ok (.getfield 38, 3) := by decide +kernel
theorem dX8_digestFrom_18 : decode cX8_digestFrom 18 = .ok (.iload 5, 2) := by decide +kernel
theorem dX8_digestFrom_20 : decode cX8_digestFrom 20 = .ok (.baload, 1) := by decide +kernel
theorem dX8_digestFrom_21 : decode cX8_digestFrom 21 = .ok (.ifCond .eq 14, 3) := by decide +kernel
theorem dX8_digestFrom_24 : decode cX8_digestFrom 24 = .ok (.ldc2_w 70, 3) := by decide +kernel
theorem dX8_digestFrom_27 : decode cX8_digestFrom 27 = .ok (.lload_n 3, 1) := by decide +kernel
theorem dX8_digestFrom_28 : decode cX8_digestFrom 28 = .ok (.lmul, 1) := by decide +kernel
theorem dX8_digestFrom_29 : decode cX8_digestFrom 29 = .ok (.lconst 1, 1) := by decide +kernel
theorem dX8_digestFrom_30 : decode cX8_digestFrom 30 = .ok (.lsub, 1) := by decide +kernel
theorem dX8_digestFrom_31 : decode cX8_digestFrom 31 = .ok (.lstore_n 3, 1) := by decide +kernel
theorem dX8_digestFrom_32 : decode cX8_digestFrom 32 = .ok (.goto 34, 3) := by decide +kernel
theorem dX8_digestFrom_35 : decode cX8_digestFrom 35 = .ok (.iconst 0, 1) := by decide +kernel
theorem dX8_digestFrom_36 : decode cX8_digestFrom 36 = .ok (.istore 6, 2) := by decide +kernel
theorem dX8_digestFrom_38 : decode cX8_digestFrom 38 = .ok (.iload 6, 2) := by decide +kernel
theorem dX8_digestFrom_40 : decode cX8_digestFrom 40 = .ok (.iconst 5, 1) := by decide +kernel
theorem dX8_digestFrom_41 : decode cX8_digestFrom 41 = .ok (.if_icmp .gt 25, 3) := by decide +kernel
theorem dX8_digestFrom_44 : decode cX8_digestFrom 44 = .ok (.ldc2_w 70, 3) := by decide +kernel
theorem dX8_digestFrom_47 : decode cX8_digestFrom 47 = .ok (.lload_n 3, 1) := by decide +kernel
theorem dX8_digestFrom_48 : decode cX8_digestFrom 48 = .ok (.lmul, 1) := by decide +kernel
theorem dX8_digestFrom_49 : decode cX8_digestFrom 49 = .ok (.aload_n 0, 1) := by decide +kernel
theorem dX8_digestFrom_50 : decode cX8_digestFrom 50 = .ok (.iload 5, 2) := by decide +kernel
theorem dX8_digestFrom_52 : decode cX8_digestFrom 52 = .ok (.iload 6, 2) := by decide +kernel
theorem dX8_digestFrom_54 : decode cX8_digestFrom 54 = .ok (.invokevirtual 72, 3) := by decide +kernel
theorem dX8_digestFrom_57 : decode cX8_digestFrom 57 = .ok (.i2l, 1) := by decide +kernel
theorem dX8_digestFrom_58 : decode cX8_digestFrom 58 = .ok (.ladd, 1) := by decide +kernel
theorem dX8_digestFrom_59 : decode cX8_digestFrom 59 = .ok (.lstore_n 3, 1) := by decide +kernel
theorem dX8_digestFrom_60 : decode cX8_digestFrom 60 = .ok (.iinc 6 1, 3) := by decide +kernel
theorem dX8_digestFrom_63 : decode cX8_digestFrom 63 = .ok (.goto (-25), 3) := by decide +kernel
theorem dX8_digestFrom_66 : decode cX8_digestFrom 66 = .ok (.iinc 5 1, 3) := by decide +kernel
theorem dX8_digestFrom_69 : decode cX8_digestFrom 69 = .ok (.goto (-64), 3) := by decide +kernel
theorem dX8_digestFrom_72 : decode cX8_digestFrom 72 = .ok (.lload_n 3, 1) := by decide +kernel
theorem dX8_digestFrom_73 : decode cX8_digestFrom 73 = .ok (.lreturn, 1) := by decide +kernel
