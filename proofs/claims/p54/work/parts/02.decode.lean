theorem dX0_init_0 : decode cX0_init 0 = .ok (.aload_n 0, 1) := by decide +kernel
theorem dX0_init_1 : decode cX0_init 1 = .ok (.invokespecial 3, 3) := by decide +kernel
theorem dX0_init_4 : decode cX0_init 4 = .ok (.aload_n 0, 1) := by decide +kernel
theorem dX0_init_5 : decode cX0_init 5 = .ok (.bipush 20, 2) := by decide +kernel
theorem dX0_init_7 : decode cX0_init 7 = .ok (.newarray .int, 2) := by decide +kernel
theorem dX0_init_9 : decode cX0_init 9 = .ok (.putfield 9, 3) := by decide +kernel
theorem dX0_init_12 : decode cX0_init 12 = .ok (.aload_n 0, 1) := by decide +kernel
theorem dX0_init_13 : decode cX0_init 13 = .ok (.iconst 4, 1) := by decide +kernel
theorem dX0_init_14 : decode cX0_init 14 = .ok (.newarray .int, 2) := by decide +kernel
theorem dX0_init_16 : decode cX0_init 16 = .ok (.putfield 15, 3) := by decide +kernel
theorem dX0_init_19 : decode cX0_init 19 = .ok (.return_, 1) := by decide +kernel
theorem dX0_takeFrom_0 : decode cX0_takeFrom 0 = .ok (.iconst 0, 1) := by decide +kernel
theorem dX0_takeFrom_1 : decode cX0_takeFrom 1 = .ok (.istore_n 2, 1) := by decide +kernel
theorem dX0_takeFrom_2 : decode cX0_takeFrom 2 = .ok (.iload_n 2, 1) := by decide +kernel
theorem dX0_takeFrom_3 : decode cX0_takeFrom 3 = .ok (.aload_n 0, 1) := by decide +kernel
theorem dX0_takeFrom_4 : decode cX0_takeFrom 4 = .ok (.getfield 9, 3) := by decide +kernel
theorem dX0_takeFrom_7 : decode cX0_takeFrom 7 = .ok (.arraylength, 1) := by decide +kernel
theorem dX0_takeFrom_8 : decode cX0_takeFrom 8 = .ok (.if_icmp .ge 34, 3) := by decide +kernel
theorem dX0_takeFrom_11 : decode cX0_takeFrom 11 = .ok (.aload_n 0, 1) := by decide +kernel
theorem dX0_takeFrom_12 : decode cX0_takeFrom 12 = .ok (.getfield 9, 3) := by decide +kernel
theorem dX0_takeFrom_15 : decode cX0_takeFrom 15 = .ok (.iload_n 2, 1) := by decide +kernel
theorem dX0_takeFrom_16 : decode cX0_takeFrom 16 = .ok (.aload_n 1, 1) := by decide +kernel
theorem dX0_takeFrom_17 : decode cX0_takeFrom 17 = .ok (.iload_n 2, 1) := by decide +kernel
theorem dX0_takeFrom_18 : decode cX0_takeFrom 18 = .ok (.invokevirtual 18, 3) := by decide +kernel
theorem dX0_takeFrom_21 : decode cX0_takeFrom 21 = .ok (.iconst 2, 1) := by decide +kernel
theorem dX0_takeFrom_22 : decode cX0_takeFrom 22 = .ok (.if_icmp .ne 11, 3) := by decide +kernel
theorem dX0_takeFrom_25 : decode cX0_takeFrom 25 = .ok (.aload_n 1, 1) := by decide +kernel
theorem dX0_takeFrom_26 : decode cX0_takeFrom 26 = .ok (.iload_n 2, 1) := by decide +kernel
theorem dX0_takeFrom_27 : decode cX0_takeFrom 27 = .ok (.invokevirtual 24, 3) := by decide +kernel
theorem dX0_takeFrom_30 : decode cX0_takeFrom 30 = .ok (.goto 5, 3) := by decide +kernel
theorem dX0_takeFrom_33 : decode cX0_takeFrom 33 = .ok (.bipush (-2), 2) := by decide +kernel
theorem dX0_takeFrom_35 : decode cX0_takeFrom 35 = .ok (.iastore, 1) := by decide +kernel
theorem dX0_takeFrom_36 : decode cX0_takeFrom 36 = .ok (.iinc 2 1, 3) := by decide +kernel
theorem dX0_takeFrom_39 : decode cX0_takeFrom 39 = .ok (.goto (-37), 3) := by decide +kernel
theorem dX0_takeFrom_42 : decode cX0_takeFrom 42 = .ok (.return_, 1) := by decide +kernel
theorem dX0_put_0 : decode cX0_put 0 = .ok (.aload_n 0, 1) := by decide +kernel
theorem dX0_put_1 : decode cX0_put 1 = .ok (.getfield 9, 3) := by decide +kernel
theorem dX0_put_4 : decode cX0_put 4 = .ok (.iload_n 1, 1) := by decide +kernel
theorem dX0_put_5 : decode cX0_put 5 = .ok (.iload_n 2, 1) := by decide +kernel
theorem dX0_put_6 : decode cX0_put 6 = .ok (.invokestatic 26, 3) := by decide +kernel
theorem dX0_put_9 : decode cX0_put 9 = .ok (.return_, 1) := by decide +kernel
theorem dX0_leaveOut_0 : decode cX0_leaveOut 0 = .ok (.aload_n 0, 1) := by decide +kernel
theorem dX0_leaveOut_1 : decode cX0_leaveOut 1 = .ok (.getfield 9, 3) := by decide +kernel
theorem dX0_leaveOut_4 : decode cX0_leaveOut 4 = .ok (.iload_n 1, 1) := by decide +kernel
theorem dX0_leaveOut_5 : decode cX0_leaveOut 5 = .ok (.bipush (-2), 2) := by decide +kernel
theorem dX0_leaveOut_7 : decode cX0_leaveOut 7 = .ok (.invokestatic 26, 3) := by decide +kernel
theorem dX0_leaveOut_10 : decode cX0_leaveOut 10 = .ok (.return_, 1) := by decide +kernel
theorem dX0_result_0 : decode cX0_result 0 = .ok (.aload_n 0, 1) := by decide +kernel
theorem dX0_result_1 : decode cX0_result 1 = .ok (.invokevirtual 30, 3) := by decide +kernel
theorem dX0_result_4 : decode cX0_result 4 = .ok (.iload_n 1, 1) := by decide +kernel
theorem dX0_result_5 : decode cX0_result 5 = .ok (.if_icmp .ge 6, 3) := by decide +kernel
theorem dX0_result_8 : decode cX0_result 8 = .ok (.bipush (-2), 2) := by decide +kernel
theorem dX0_result_10 : decode cX0_result 10 = .ok (.ireturn, 1) := by decide +kernel
theorem dX0_result_11 : decode cX0_result 11 = .ok (.iconst 1, 1) := by decide +kernel
theorem dX0_result_12 : decode cX0_result 12 = .ok (.istore_n 2, 1) := by decide +kernel
theorem dX0_result_13 : decode cX0_result 13 = .ok (.iconst 0, 1) := by decide +kernel
theorem dX0_result_14 : decode cX0_result 14 = .ok (.istore_n 3, 1) := by decide +kernel
theorem dX0_result_15 : decode cX0_result 15 = .ok (.iload_n 3, 1) := by decide +kernel
theorem dX0_result_16 : decode cX0_result 16 = .ok (.aload_n 0, 1) := by decide +kernel
theorem dX0_result_17 : decode cX0_result 17 = .ok (.getfield 15, 3) := by decide +kernel
theorem dX0_result_20 : decode cX0_result 20 = .ok (.arraylength, 1) := by decide +kernel
theorem dX0_result_21 : decode cX0_result 21 = .ok (.if_icmp .ge 20, 3) := by decide +kernel
theorem dX0_result_24 : decode cX0_result 24 = .ok (.iload_n 2, 1) := by decide +kernel
theorem dX0_result_25 : decode cX0_result 25 = .ok (.aload_n 0, 1) := by decide +kernel
theorem dX0_result_26 : decode cX0_result 26 = .ok (.getfield 15, 3) := by decide +kernel
theorem dX0_result_29 : decode cX0_result 29 = .ok (.iload_n 3, 1) := by decide +kernel
theorem dX0_result_30 : decode cX0_result 30 = .ok (.iaload, 1) := by decide +kernel
theorem dX0_result_31 : decode cX0_result 31 = .ok (.invokestatic 34, 3) := by decide +kernel
theorem dX0_result_34 : decode cX0_result 34 = .ok (.istore_n 2, 1) := by decide +kernel
theorem dX0_result_35 : decode cX0_result 35 = .ok (.iinc 3 1, 3) := by decide +kernel
theorem dX0_result_38 : decode cX0_result 38 = .ok (.goto (-23), 3) := by decide +kernel
theorem dX0_result_41 : decode cX0_result 41 = .ok (.iconst 0, 1) := by decide +kernel
theorem dX0_result_42 : decode cX0_result 42 = .ok (.istore_n 3, 1) := by decide +kernel
theorem dX0_result_43 : decode cX0_result 43 = .ok (.iload_n 3, 1) := by decide +kernel
theorem dX0_result_44 : decode cX0_result 44 = .ok (.aload_n 0, 1) := by decide +kernel
theorem dX0_result_45 : decode cX0_result 45 = .ok (.getfield 9, 3) := by decide +kernel
theorem dX0_result_48 : decode cX0_result 48 = .ok (.arraylength, 1) := by decide +kernel
theorem dX0_result_49 : decode cX0_result 49 = .ok (.if_icmp .ge 34, 3) := by decide +kernel
theorem dX0_result_52 : decode cX0_result 52 = .ok (.aload_n 0, 1) := by decide +kernel
theorem dX0_result_53 : decode cX0_result 53 = .ok (.getfield 15, 3) := by decide +kernel
theorem dX0_result_56 : decode cX0_result 56 = .ok (.aload_n 0, 1) := by decide +kernel
theorem dX0_result_57 : decode cX0_result 57 = .ok (.getfield 9, 3) := by decide +kernel
theorem dX0_result_60 : decode cX0_result 60 = .ok (.iload_n 3, 1) := by decide +kernel
theorem dX0_result_61 : decode cX0_result 61 = .ok (.iaload, 1) := by decide +kernel
theorem dX0_result_62 : decode cX0_result 62 = .ok (.iconst 0, 1) := by decide +kernel
theorem dX0_result_63 : decode cX0_result 63 = .ok (.invokestatic 40, 3) := by decide +kernel
theorem dX0_result_66 : decode cX0_result 66 = .ok (.iload_n 2, 1) := by decide +kernel
theorem dX0_result_67 : decode cX0_result 67 = .ok (.if_icmp .ne 10, 3) := by decide +kernel
theorem dX0_result_70 : decode cX0_result 70 = .ok (.aload_n 0, 1) := by decide +kernel
theorem dX0_result_71 : decode cX0_result 71 = .ok (.getfield 9, 3) := by decide +kernel
theorem dX0_result_74 : decode cX0_result 74 = .ok (.iload_n 3, 1) := by decide +kernel
theorem dX0_result_75 : decode cX0_result 75 = .ok (.iaload, 1) := by decide +kernel
theorem dX0_result_76 : decode cX0_result 76 = .ok (.ireturn, 1) := by decide +kernel
theorem dX0_result_77 : decode cX0_result 77 = .ok (.iinc 3 1, 3) := by decide +kernel
theorem dX0_result_80 : decode cX0_result 80 = .ok (.goto (-37), 3) := by decide +kernel
theorem dX0_result_83 : decode cX0_result 83 = .ok (.bipush (-2), 2) := by decide +kernel
theorem dX0_result_85 : decode cX0_result 85 = .ok (.ireturn, 1) := by decide +kernel
theorem dX0_countAll_0 : decode cX0_countAll 0 = .ok (.iconst 0, 1) := by decide +kernel
theorem dX0_countAll_1 : decode cX0_countAll 1 = .ok (.istore_n 1, 1) := by decide +kernel
theorem dX0_countAll_2 : decode cX0_countAll 2 = .ok (.aload_n 0, 1) := by decide +kernel
theorem dX0_countAll_3 : decode cX0_countAll 3 = .ok (.getfield 15, 3) := by decide +kernel
theorem dX0_countAll_6 : decode cX0_countAll 6 = .ok (.iconst 0, 1) := by decide +kernel
theorem dX0_countAll_7 : decode cX0_countAll 7 = .ok (.invokestatic 44, 3) := by decide +kernel
theorem dX0_countAll_10 : decode cX0_countAll 10 = .ok (.iconst 0, 1) := by decide +kernel
theorem dX0_countAll_11 : decode cX0_countAll 11 = .ok (.istore_n 2, 1) := by decide +kernel
theorem dX0_countAll_12 : decode cX0_countAll 12 = .ok (.iload_n 2, 1) := by decide +kernel
theorem dX0_countAll_13 : decode cX0_countAll 13 = .ok (.aload_n 0, 1) := by decide +kernel
theorem dX0_countAll_14 : decode cX0_countAll 14 = .ok (.getfield 9, 3) := by decide +kernel
theorem dX0_countAll_17 : decode cX0_countAll 17 = .ok (.arraylength, 1) := by decide +kernel
theorem dX0_countAll_18 : decode cX0_countAll 18 = .ok (.if_icmp .ge 48, 3) := by decide +kernel
theorem dX0_countAll_21 : decode cX0_countAll 21 = .ok (.aload_n 0, 1) := by decide +kernel
theorem dX0_countAll_22 : decode cX0_countAll 22 = .ok (.getfield 9, 3) := by decide +kernel
theorem dX0_countAll_25 : decode cX0_countAll 25 = .ok (.iload_n 2, 1) := by decide +kernel
theorem dX0_countAll_26 : decode cX0_countAll 26 = .ok (.iaload, 1) := by decide +kernel
theorem dX0_countAll_27 : decode cX0_countAll 27 = .ok (.istore_n 3, 1) := by decide +kernel
theorem dX0_countAll_28 : decode cX0_countAll 28 = .ok (.iload_n 3, 1) := by decide +kernel
theorem dX0_countAll_29 : decode cX0_countAll 29 = .ok (.invokestatic 48, 3) := by decide +kernel
theorem dX0_countAll_32 : decode cX0_countAll 32 = .ok (.ifCond .ne 6, 3) := by decide +kernel
theorem dX0_countAll_35 : decode cX0_countAll 35 = .ok (.goto 25, 3) := by decide +kernel
theorem dX0_countAll_38 : decode cX0_countAll 38 = .ok (.aload_n 0, 1) := by decide +kernel
theorem dX0_countAll_39 : decode cX0_countAll 39 = .ok (.getfield 15, 3) := by decide +kernel
theorem dX0_countAll_42 : decode cX0_countAll 42 = .ok (.iload_n 3, 1) := by decide +kernel
theorem dX0_countAll_43 : decode cX0_countAll 43 = .ok (.aload_n 0, 1) := by decide +kernel
theorem dX0_countAll_44 : decode cX0_countAll 44 = .ok (.getfield 15, 3) := by decide +kernel
theorem dX0_countAll_47 : decode cX0_countAll 47 = .ok (.iload_n 3, 1) := by decide +kernel
theorem dX0_countAll_48 : decode cX0_countAll 48 = .ok (.iconst 0, 1) := by decide +kernel
theorem dX0_countAll_49 : decode cX0_countAll 49 = .ok (.invokestatic 40, 3) := by decide +kernel
theorem dX0_countAll_52 : decode cX0_countAll 52 = .ok (.iconst 1, 1) := by decide +kernel
theorem dX0_countAll_53 : decode cX0_countAll 53 = .ok (.iadd, 1) := by decide +kernel
theorem dX0_countAll_54 : decode cX0_countAll 54 = .ok (.invokestatic 26, 3) := by decide +kernel
theorem dX0_countAll_57 : decode cX0_countAll 57 = .ok (.iinc 1 1, 3) := by decide +kernel
theorem dX0_countAll_60 : decode cX0_countAll 60 = .ok (.iinc 2 1, 3) := by decide +kernel
theorem dX0_countAll_63 : decode cX0_countAll 63 = .ok (.goto (-51), 3) := by decide +kernel
theorem dX0_countAll_66 : decode cX0_countAll 66 = .ok (.iload_n 1, 1) := by decide +kernel
theorem dX0_countAll_67 : decode cX0_countAll 67 = .ok (.ireturn, 1) := by decide +kernel
theorem dX1_init_0 : decode cX1_init 0 = .ok (.aload_n 0, 1) := by decide +kernel
theorem dX1_init_1 : decode cX1_init 1 = .ok (.invokespecial 3, 3) := by decide +kernel
theorem dX1_init_4 : decode cX1_init 4 = .ok (.aload_n 0, 1) := by decide +kernel
theorem dX1_init_5 : decode cX1_init 5 = .ok (.iload_n 1, 1) := by decide +kernel
theorem dX1_init_6 : decode cX1_init 6 = .ok (.iconst 0, 1) := by decide +kernel
theorem dX1_init_7 : decode cX1_init 7 = .ok (.invokestatic 9, 3) := by decide +kernel
theorem dX1_init_10 : decode cX1_init 10 = .ok (.newarray .byte, 2) := by decide +kernel
theorem dX1_init_12 : decode cX1_init 12 = .ok (.putfield 15, 3) := by decide +kernel
theorem dX1_init_15 : decode cX1_init 15 = .ok (.return_, 1) := by decide +kernel
theorem dX1_length_0 : decode cX1_length 0 = .ok (.aload_n 0, 1) := by decide +kernel
theorem dX1_length_1 : decode cX1_length 1 = .ok (.getfield 21, 3) := by decide +kernel
theorem dX1_length_4 : decode cX1_length 4 = .ok (.ireturn, 1) := by decide +kernel
theorem dX1_at_0 : decode cX1_at 0 = .ok (.iload_n 1, 1) := by decide +kernel
theorem dX1_at_1 : decode cX1_at 1 = .ok (.ifCond .lt 33, 3) := by decide +kernel
theorem dX1_at_4 : decode cX1_at 4 = .ok (.iload_n 1, 1) := by decide +kernel
theorem dX1_at_5 : decode cX1_at 5 = .ok (.aload_n 0, 1) := by decide +kernel
theorem dX1_at_6 : decode cX1_at 6 = .ok (.getfield 21, 3) := by decide +kernel
theorem dX1_at_9 : decode cX1_at 9 = .ok (.if_icmp .ge 25, 3) := by decide +kernel
theorem dX1_at_12 : decode cX1_at 12 = .ok (.iload_n 1, 1) := by decide +kernel
theorem dX1_at_13 : decode cX1_at 13 = .ok (.aload_n 0, 1) := by decide +kernel
theorem dX1_at_14 : decode cX1_at 14 = .ok (.getfield 15, 3) := by decide +kernel
theorem dX1_at_17 : decode cX1_at 17 = .ok (.arraylength, 1) := by decide +kernel
theorem dX1_at_18 : decode cX1_at 18 = .ok (.if_icmp .ge 16, 3) := by decide +kernel
theorem dX1_at_21 : decode cX1_at 21 = .ok (.aload_n 0, 1) := by decide +kernel
theorem dX1_at_22 : decode cX1_at 22 = .ok (.getfield 15, 3) := by decide +kernel
theorem dX1_at_25 : decode cX1_at 25 = .ok (.iload_n 1, 1) := by decide +kernel
theorem dX1_at_26 : decode cX1_at 26 = .ok (.baload, 1) := by decide +kernel
theorem dX1_at_27 : decode cX1_at 27 = .ok (.sipush 255, 3) := by decide +kernel
theorem dX1_at_30 : decode cX1_at 30 = .ok (.iand, 1) := by decide +kernel
theorem dX1_at_31 : decode cX1_at 31 = .ok (.goto 5, 3) := by decide +kernel
theorem dX1_at_34 : decode cX1_at 34 = .ok (.bipush (-2), 2) := by decide +kernel
theorem dX1_at_36 : decode cX1_at 36 = .ok (.ireturn, 1) := by decide +kernel
theorem dX1_cutTo_0 : decode cX1_cutTo 0 = .ok (.iload_n 1, 1) := by decide +kernel
theorem dX1_cutTo_1 : decode cX1_cutTo 1 = .ok (.ifCond .lt 16, 3) := by decide +kernel
theorem dX1_cutTo_4 : decode cX1_cutTo 4 = .ok (.iload_n 1, 1) := by decide +kernel
theorem dX1_cutTo_5 : decode cX1_cutTo 5 = .ok (.aload_n 0, 1) := by decide +kernel
theorem dX1_cutTo_6 : decode cX1_cutTo 6 = .ok (.getfield 21, 3) := by decide +kernel
theorem dX1_cutTo_9 : decode cX1_cutTo 9 = .ok (.if_icmp .gt 8, 3) := by decide +kernel
theorem dX1_cutTo_12 : decode cX1_cutTo 12 = .ok (.aload_n 0, 1) := by decide +kernel
theorem dX1_cutTo_13 : decode cX1_cutTo 13 = .ok (.iload_n 1, 1) := by decide +kernel
theorem dX1_cutTo_14 : decode cX1_cutTo 14 = .ok (.putfield 21, 3) := by decide +kernel
theorem dX1_cutTo_17 : decode cX1_cutTo 17 = .ok (.return_, 1) := by decide +kernel
theorem dX1_add_0 : decode cX1_add 0 = .ok (.aload_n 0, 1) := by decide +kernel
theorem dX1_add_1 : decode cX1_add 1 = .ok (.getfield 21, 3) := by decide +kernel
theorem dX1_add_4 : decode cX1_add 4 = .ok (.ifCond .lt 15, 3) := by decide +kernel
theorem dX1_add_7 : decode cX1_add 7 = .ok (.aload_n 0, 1) := by decide +kernel
theorem dX1_add_8 : decode cX1_add 8 = .ok (.getfield 21, 3) := by decide +kernel
theorem dX1_add_11 : decode cX1_add 11 = .ok (.aload_n 0, 1) := by decide +kernel
theorem dX1_add_12 : decode cX1_add 12 = .ok (.getfield 15, 3) := by decide +kernel
theorem dX1_add_15 : decode cX1_add 15 = .ok (.arraylength, 1) := by decide +kernel
theorem dX1_add_16 : decode cX1_add 16 = .ok (.if_icmp .lt 4, 3) := by decide +kernel
theorem dX1_add_19 : decode cX1_add 19 = .ok (.return_, 1) := by decide +kernel
theorem dX1_add_20 : decode cX1_add 20 = .ok (.aload_n 0, 1) := by decide +kernel
theorem dX1_add_21 : decode cX1_add 21 = .ok (.getfield 15, 3) := by decide +kernel
theorem dX1_add_24 : decode cX1_add 24 = .ok (.aload_n 0, 1) := by decide +kernel
theorem dX1_add_25 : decode cX1_add 25 = .ok (.getfield 21, 3) := by decide +kernel
theorem dX1_add_28 : decode cX1_add 28 = .ok (.iload_n 1, 1) := by decide +kernel
theorem dX1_add_29 : decode cX1_add 29 = .ok (.i2b, 1) := by decide +kernel
theorem dX1_add_30 : decode cX1_add 30 = .ok (.bastore, 1) := by decide +kernel
theorem dX1_add_31 : decode cX1_add 31 = .ok (.aload_n 0, 1) := by decide +kernel
theorem dX1_add_32 : decode cX1_add 32 = .ok (.dup, 1) := by decide +kernel
theorem dX1_add_33 : decode cX1_add 33 = .ok (.getfield 21, 3) := by decide +kernel
theorem dX1_add_36 : decode cX1_add 36 = .ok (.iconst 1, 1) := by decide +kernel
theorem dX1_add_37 : decode cX1_add 37 = .ok (.iadd, 1) := by decide +kernel
theorem dX1_add_38 : decode cX1_add 38 = .ok (.putfield 21, 3) := by decide +kernel
theorem dX1_add_41 : decode cX1_add 41 = .ok (.return_, 1) := by decide +kernel
theorem dX1_addWhole_0 : decode cX1_addWhole 0 = .ok (.bipush 24, 2) := by decide +kernel
theorem dX1_addWhole_2 : decode cX1_addWhole 2 = .ok (.istore_n 2, 1) := by decide +kernel
theorem dX1_addWhole_3 : decode cX1_addWhole 3 = .ok (.iload_n 2, 1) := by decide +kernel
theorem dX1_addWhole_4 : decode cX1_addWhole 4 = .ok (.ifCond .lt 16, 3) := by decide +kernel
theorem dX1_addWhole_7 : decode cX1_addWhole 7 = .ok (.aload_n 0, 1) := by decide +kernel
theorem dX1_addWhole_8 : decode cX1_addWhole 8 = .ok (.iload_n 1, 1) := by decide +kernel
theorem dX1_addWhole_9 : decode cX1_addWhole 9 = .ok (.iload_n 2, 1) := by decide +kernel
theorem dX1_addWhole_10 : decode cX1_addWhole 10 = .ok (.iushr, 1) := by decide +kernel
theorem dX1_addWhole_11 : decode cX1_addWhole 11 = .ok (.invokevirtual 25, 3) := by decide +kernel
theorem dX1_addWhole_14 : decode cX1_addWhole 14 = .ok (.iinc 2 (-8), 3) := by decide +kernel
theorem dX1_addWhole_17 : decode cX1_addWhole 17 = .ok (.goto (-14), 3) := by decide +kernel
theorem dX1_addWhole_20 : decode cX1_addWhole 20 = .ok (.return_, 1) := by decide +kernel
theorem dX1_addText_0 : decode cX1_addText 0 = .ok (.iconst 0, 1) := by decide +kernel
theorem dX1_addText_1 : decode cX1_addText 1 = .ok (.istore_n 2, 1) := by decide +kernel
theorem dX1_addText_2 : decode cX1_addText 2 = .ok (.iload_n 2, 1) := by decide +kernel
theorem dX1_addText_3 : decode cX1_addText 3 = .ok (.aload_n 1, 1) := by decide +kernel
theorem dX1_addText_4 : decode cX1_addText 4 = .ok (.invokevirtual 29, 3) := by decide +kernel
theorem dX1_addText_7 : decode cX1_addText 7 = .ok (.if_icmp .ge 18, 3) := by decide +kernel
theorem dX1_addText_10 : decode cX1_addText 10 = .ok (.aload_n 0, 1) := by decide +kernel
theorem dX1_addText_11 : decode cX1_addText 11 = .ok (.aload_n 1, 1) := by decide +kernel
theorem dX1_addText_12 : decode cX1_addText 12 = .ok (.iload_n 2, 1) := by decide +kernel
theorem dX1_addText_13 : decode cX1_addText 13 = .ok (.invokevirtual 34, 3) := by decide +kernel
theorem dX1_addText_16 : decode cX1_addText 16 = .ok (.invokevirtual 25, 3) := by decide +kernel
theorem dX1_addText_19 : decode cX1_addText 19 = .ok (.iinc 2 1, 3) := by decide +kernel
theorem dX1_addText_22 : decode cX1_addText 22 = .ok (.goto (-20), 3) := by decide +kernel
theorem dX1_addText_25 : decode cX1_addText 25 = .ok (.return_, 1) := by decide +kernel
theorem dX1_addName_0 : decode cX1_addName 0 = .ok (.bipush 25, 2) := by decide +kernel
theorem dX1_addName_2 : decode cX1_addName 2 = .ok (.istore_n 2, 1) := by decide +kernel
theorem dX1_addName_3 : decode cX1_addName 3 = .ok (.iload_n 2, 1) := by decide +kernel
theorem dX1_addName_4 : decode cX1_addName 4 = .ok (.ifCond .lt 30, 3) := by decide +kernel
theorem dX1_addName_7 : decode cX1_addName 7 = .ok (.iload_n 1, 1) := by decide +kernel
theorem dX1_addName_8 : decode cX1_addName 8 = .ok (.iload_n 2, 1) := by decide +kernel
theorem dX1_addName_9 : decode cX1_addName 9 = .ok (.ishr, 1) := by decide +kernel
theorem dX1_addName_10 : decode cX1_addName 10 = .ok (.bipush 31, 2) := by decide +kernel
theorem dX1_addName_12 : decode cX1_addName 12 = .ok (.iand, 1) := by decide +kernel
theorem dX1_addName_13 : decode cX1_addName 13 = .ok (.istore_n 3, 1) := by decide +kernel
theorem dX1_addName_14 : decode cX1_addName 14 = .ok (.iload_n 3, 1) := by decide +kernel
theorem dX1_addName_15 : decode cX1_addName 15 = .ok (.ifCond .eq 13, 3) := by decide +kernel
theorem dX1_addName_18 : decode cX1_addName 18 = .ok (.aload_n 0, 1) := by decide +kernel
theorem dX1_addName_19 : decode cX1_addName 19 = .ok (.bipush 97, 2) := by decide +kernel
theorem dX1_addName_21 : decode cX1_addName 21 = .ok (.iload_n 3, 1) := by decide +kernel
theorem dX1_addName_22 : decode cX1_addName 22 = .ok (.iadd, 1) := by decide +kernel
theorem dX1_addName_23 : decode cX1_addName 23 = .ok (.iconst 1, 1) := by decide +kernel
theorem dX1_addName_24 : decode cX1_addName 24 = .ok (.isub, 1) := by decide +kernel
theorem dX1_addName_25 : decode cX1_addName 25 = .ok (.invokevirtual 25, 3) := by decide +kernel
theorem dX1_addName_28 : decode cX1_addName 28 = .ok (.iinc 2 (-5), 3) := by decide +kernel
theorem dX1_addName_31 : decode cX1_addName 31 = .ok (.goto (-28), 3) := by decide +kernel
theorem dX1_addName_34 : decode cX1_addName 34 = .ok (.return_, 1) := by decide +kernel
theorem dX1_addNumber_0 : decode cX1_addNumber 0 = .ok (.iload_n 1, 1) := by decide +kernel
theorem dX1_addNumber_1 : decode cX1_addNumber 1 = .ok (.i2l, 1) := by decide +kernel
theorem dX1_addNumber_2 : decode cX1_addNumber 2 = .ok (.lstore_n 2, 1) := by decide +kernel
theorem dX1_addNumber_3 : decode cX1_addNumber 3 = .ok (.lload_n 2, 1) := by decide +kernel
theorem dX1_addNumber_4 : decode cX1_addNumber 4 = .ok (.lconst 0, 1) := by decide +kernel
theorem dX1_addNumber_5 : decode cX1_addNumber 5 = .ok (.lcmp, 1) := by decide +kernel
theorem dX1_addNumber_6 : decode cX1_addNumber 6 = .ok (.ifCond .ge 12, 3) := by decide +kernel
theorem dX1_addNumber_9 : decode cX1_addNumber 9 = .ok (.aload_n 0, 1) := by decide +kernel
theorem dX1_addNumber_10 : decode cX1_addNumber 10 = .ok (.bipush 45, 2) := by decide +kernel
theorem dX1_addNumber_12 : decode cX1_addNumber 12 = .ok (.invokevirtual 25, 3) := by decide +kernel
theorem dX1_addNumber_15 : decode cX1_addNumber 15 = .ok (.lload_n 2, 1) := by decide +kernel
theorem dX1_addNumber_16 : decode cX1_addNumber 16 = .ok (.lneg, 1) := by decide +kernel
theorem dX1_addNumber_17 : decode cX1_addNumber 17 = .ok (.lstore_n 2, 1) := by decide +kernel
theorem dX1_addNumber_18 : decode cX1_addNumber 18 = .ok (.lconst 1, 1) := by decide +kernel
theorem dX1_addNumber_19 : decode cX1_addNumber 19 = .ok (.lstore 4, 2) := by decide +kernel
theorem dX1_addNumber_21 : decode cX1_addNumber 21 = .ok (.iconst 1, 1) := by decide +kernel
theorem dX1_addNumber_22 : decode cX1_addNumber 22 = .ok (.istore 6, 2) := by decide +kernel
theorem dX1_addNumber_24 : decode cX1_addNumber 24 = .ok (.iload 6, 2) := by decide +kernel
theorem dX1_addNumber_26 : decode cX1_addNumber 26 = .ok (.bipush 11, 2) := by decide +kernel
theorem dX1_addNumber_28 : decode cX1_addNumber 28 = .ok (.if_icmp .ge 28, 3) := by decide +kernel
theorem dX1_addNumber_31 : decode cX1_addNumber 31 = .ok (.lload 4, 2) := by decide +kernel
theorem dX1_addNumber_33 : decode cX1_addNumber 33 = .ok (.ldc2_w 40, 3) := by decide +kernel
theorem dX1_addNumber_36 : decode cX1_addNumber 36 = .ok (.lmul, 1) := by decide +kernel
theorem dX1_addNumber_37 : decode cX1_addNumber 37 = .ok (.lload_n 2, 1) := by decide +kernel
theorem dX1_addNumber_38 : decode cX1_addNumber 38 = .ok (.lcmp, 1) := by decide +kernel
theorem dX1_addNumber_39 : decode cX1_addNumber 39 = .ok (.ifCond .gt 17, 3) := by decide +kernel
theorem dX1_addNumber_42 : decode cX1_addNumber 42 = .ok (.lload 4, 2) := by decide +kernel
theorem dX1_addNumber_44 : decode cX1_addNumber 44 = .ok (.ldc2_w 40, 3) := by decide +kernel
theorem dX1_addNumber_47 : decode cX1_addNumber 47 = .ok (.lmul, 1) := by decide +kernel
theorem dX1_addNumber_48 : decode cX1_addNumber 48 = .ok (.lstore 4, 2) := by decide +kernel
theorem dX1_addNumber_50 : decode cX1_addNumber 50 = .ok (.iinc 6 1, 3) := by decide +kernel
theorem dX1_addNumber_53 : decode cX1_addNumber 53 = .ok (.goto (-29), 3) := by decide +kernel
theorem dX1_addNumber_56 : decode cX1_addNumber 56 = .ok (.lload 4, 2) := by decide +kernel
theorem dX1_addNumber_58 : decode cX1_addNumber 58 = .ok (.lconst 0, 1) := by decide +kernel
theorem dX1_addNumber_59 : decode cX1_addNumber 59 = .ok (.lcmp, 1) := by decide +kernel
theorem dX1_addNumber_60 : decode cX1_addNumber 60 = .ok (.ifCond .le 31, 3) := by decide +kernel
theorem dX1_addNumber_63 : decode cX1_addNumber 63 = .ok (.aload_n 0, 1) := by decide +kernel
theorem dX1_addNumber_64 : decode cX1_addNumber 64 = .ok (.ldc2_w 42, 3) := by decide +kernel
theorem dX1_addNumber_67 : decode cX1_addNumber 67 = .ok (.lload_n 2, 1) := by decide +kernel
theorem dX1_addNumber_68 : decode cX1_addNumber 68 = .ok (.lload 4, 2) := by decide +kernel
theorem dX1_addNumber_70 : decode cX1_addNumber 70 = .ok (.ldiv, 1) := by decide +kernel
theorem dX1_addNumber_71 : decode cX1_addNumber 71 = .ok (.ldc2_w 40, 3) := by decide +kernel
theorem dX1_addNumber_74 : decode cX1_addNumber 74 = .ok (.lrem, 1) := by decide +kernel
theorem dX1_addNumber_75 : decode cX1_addNumber 75 = .ok (.ladd, 1) := by decide +kernel
theorem dX1_addNumber_76 : decode cX1_addNumber 76 = .ok (.l2i, 1) := by decide +kernel
theorem dX1_addNumber_77 : decode cX1_addNumber 77 = .ok (.invokevirtual 25, 3) := by decide +kernel
theorem dX1_addNumber_80 : decode cX1_addNumber 80 = .ok (.lload 4, 2) := by decide +kernel
theorem dX1_addNumber_82 : decode cX1_addNumber 82 = .ok (.ldc2_w 40, 3) := by decide +kernel
theorem dX1_addNumber_85 : decode cX1_addNumber 85 = .ok (.ldiv, 1) := by decide +kernel
theorem dX1_addNumber_86 : decode cX1_addNumber 86 = .ok (.lstore 4, 2) := by decide +kernel
theorem dX1_addNumber_88 : decode cX1_addNumber 88 = .ok (.goto (-32), 3) := by decide +kernel
theorem dX1_addNumber_91 : decode cX1_addNumber 91 = .ok (.return_, 1) := by decide +kernel
theorem dX2_init_0 : decode cX2_init 0 = .ok (.aload_n 0, 1) := by decide +kernel
theorem dX2_init_1 : decode cX2_init 1 = .ok (.invokespecial 3, 3) := by decide +kernel
theorem dX2_init_4 : decode cX2_init 4 = .ok (.aload_n 0, 1) := by decide +kernel
theorem dX2_init_5 : decode cX2_init 5 = .ok (.bipush 20, 2) := by decide +kernel
theorem dX2_init_7 : decode cX2_init 7 = .ok (.newarray .int, 2) := by decide +kernel
theorem dX2_init_9 : decode cX2_init 9 = .ok (.putfield 9, 3) := by decide +kernel
theorem dX2_init_12 : decode cX2_init 12 = .ok (.aload_n 0, 1) := by decide +kernel
theorem dX2_init_13 : decode cX2_init 13 = .ok (.bipush 20, 2) := by decide +kernel
theorem dX2_init_15 : decode cX2_init 15 = .ok (.newarray .int, 2) := by decide +kernel
theorem dX2_init_17 : decode cX2_init 17 = .ok (.putfield 15, 3) := by decide +kernel
theorem dX2_init_20 : decode cX2_init 20 = .ok (.aload_n 0, 1) := by decide +kernel
theorem dX2_init_21 : decode cX2_init 21 = .ok (.bipush 20, 2) := by decide +kernel
theorem dX2_init_23 : decode cX2_init 23 = .ok (.newarray .int, 2) := by decide +kernel
theorem dX2_init_25 : decode cX2_init 25 = .ok (.putfield 18, 3) := by decide +kernel
theorem dX2_init_28 : decode cX2_init 28 = .ok (.aload_n 0, 1) := by decide +kernel
theorem dX2_init_29 : decode cX2_init 29 = .ok (.bipush 20, 2) := by decide +kernel
theorem dX2_init_31 : decode cX2_init 31 = .ok (.newarray .int, 2) := by decide +kernel
theorem dX2_init_33 : decode cX2_init 33 = .ok (.putfield 21, 3) := by decide +kernel
theorem dX2_init_36 : decode cX2_init 36 = .ok (.aload_n 0, 1) := by decide +kernel
theorem dX2_init_37 : decode cX2_init 37 = .ok (.bipush 6, 2) := by decide +kernel
theorem dX2_init_39 : decode cX2_init 39 = .ok (.newarray .int, 2) := by decide +kernel
theorem dX2_init_41 : decode cX2_init 41 = .ok (.putfield 24, 3) := by decide +kernel
theorem dX2_init_44 : decode cX2_init 44 = .ok (.aload_n 0, 1) := by decide +kernel
theorem dX2_init_45 : decode cX2_init 45 = .ok (.bipush 6, 2) := by decide +kernel
theorem dX2_init_47 : decode cX2_init 47 = .ok (.newarray .int, 2) := by decide +kernel
theorem dX2_init_49 : decode cX2_init 49 = .ok (.putfield 27, 3) := by decide +kernel
theorem dX2_init_52 : decode cX2_init 52 = .ok (.return_, 1) := by decide +kernel
theorem dX2_begin_0 : decode cX2_begin 0 = .ok (.iconst 0, 1) := by decide +kernel
theorem dX2_begin_1 : decode cX2_begin 1 = .ok (.istore_n 2, 1) := by decide +kernel
theorem dX2_begin_2 : decode cX2_begin 2 = .ok (.iload_n 2, 1) := by decide +kernel
theorem dX2_begin_3 : decode cX2_begin 3 = .ok (.aload_n 0, 1) := by decide +kernel
theorem dX2_begin_4 : decode cX2_begin 4 = .ok (.getfield 9, 3) := by decide +kernel
theorem dX2_begin_7 : decode cX2_begin 7 = .ok (.arraylength, 1) := by decide +kernel
theorem dX2_begin_8 : decode cX2_begin 8 = .ok (.if_icmp .ge 33, 3) := by decide +kernel
theorem dX2_begin_11 : decode cX2_begin 11 = .ok (.aload_n 0, 1) := by decide +kernel
theorem dX2_begin_12 : decode cX2_begin 12 = .ok (.getfield 9, 3) := by decide +kernel
theorem dX2_begin_15 : decode cX2_begin 15 = .ok (.iload_n 2, 1) := by decide +kernel
theorem dX2_begin_16 : decode cX2_begin 16 = .ok (.iload_n 2, 1) := by decide +kernel
theorem dX2_begin_17 : decode cX2_begin 17 = .ok (.aload_n 1, 1) := by decide +kernel
theorem dX2_begin_18 : decode cX2_begin 18 = .ok (.invokevirtual 30, 3) := by decide +kernel
theorem dX2_begin_21 : decode cX2_begin 21 = .ok (.if_icmp .ge 11, 3) := by decide +kernel
theorem dX2_begin_24 : decode cX2_begin 24 = .ok (.aload_n 1, 1) := by decide +kernel
theorem dX2_begin_25 : decode cX2_begin 25 = .ok (.iload_n 2, 1) := by decide +kernel
theorem dX2_begin_26 : decode cX2_begin 26 = .ok (.invokevirtual 36, 3) := by decide +kernel
theorem dX2_begin_29 : decode cX2_begin 29 = .ok (.goto 5, 3) := by decide +kernel
theorem dX2_begin_32 : decode cX2_begin 32 = .ok (.bipush (-2), 2) := by decide +kernel
theorem dX2_begin_34 : decode cX2_begin 34 = .ok (.iastore, 1) := by decide +kernel
theorem dX2_begin_35 : decode cX2_begin 35 = .ok (.iinc 2 1, 3) := by decide +kernel
theorem dX2_begin_38 : decode cX2_begin 38 = .ok (.goto (-36), 3) := by decide +kernel
theorem dX2_begin_41 : decode cX2_begin 41 = .ok (.aload_n 0, 1) := by decide +kernel
theorem dX2_begin_42 : decode cX2_begin 42 = .ok (.getfield 15, 3) := by decide +kernel
theorem dX2_begin_45 : decode cX2_begin 45 = .ok (.iconst 0, 1) := by decide +kernel
theorem dX2_begin_46 : decode cX2_begin 46 = .ok (.invokestatic 40, 3) := by decide +kernel
theorem dX2_begin_49 : decode cX2_begin 49 = .ok (.aload_n 0, 1) := by decide +kernel
theorem dX2_begin_50 : decode cX2_begin 50 = .ok (.getfield 18, 3) := by decide +kernel
theorem dX2_begin_53 : decode cX2_begin 53 = .ok (.iconst 0, 1) := by decide +kernel
theorem dX2_begin_54 : decode cX2_begin 54 = .ok (.invokestatic 40, 3) := by decide +kernel
theorem dX2_begin_57 : decode cX2_begin 57 = .ok (.aload_n 0, 1) := by decide +kernel
theorem dX2_begin_58 : decode cX2_begin 58 = .ok (.getfield 21, 3) := by decide +kernel
theorem dX2_begin_61 : decode cX2_begin 61 = .ok (.iconst 0, 1) := by decide +kernel
theorem dX2_begin_62 : decode cX2_begin 62 = .ok (.invokestatic 40, 3) := by decide +kernel
theorem dX2_begin_65 : decode cX2_begin 65 = .ok (.aload_n 0, 1) := by decide +kernel
theorem dX2_begin_66 : decode cX2_begin 66 = .ok (.getfield 24, 3) := by decide +kernel
theorem dX2_begin_69 : decode cX2_begin 69 = .ok (.iconst 0, 1) := by decide +kernel
theorem dX2_begin_70 : decode cX2_begin 70 = .ok (.invokestatic 40, 3) := by decide +kernel
theorem dX2_begin_73 : decode cX2_begin 73 = .ok (.aload_n 0, 1) := by decide +kernel
theorem dX2_begin_74 : decode cX2_begin 74 = .ok (.getfield 27, 3) := by decide +kernel
theorem dX2_begin_77 : decode cX2_begin 77 = .ok (.iconst 0, 1) := by decide +kernel
theorem dX2_begin_78 : decode cX2_begin 78 = .ok (.invokestatic 40, 3) := by decide +kernel
theorem dX2_begin_81 : decode cX2_begin 81 = .ok (.return_, 1) := by decide +kernel
theorem dX2_copyFrom_0 : decode cX2_copyFrom 0 = .ok (.aload_n 1, 1) := by decide +kernel
theorem dX2_copyFrom_1 : decode cX2_copyFrom 1 = .ok (.getfield 9, 3) := by decide +kernel
theorem dX2_copyFrom_4 : decode cX2_copyFrom 4 = .ok (.aload_n 0, 1) := by decide +kernel
theorem dX2_copyFrom_5 : decode cX2_copyFrom 5 = .ok (.getfield 9, 3) := by decide +kernel
theorem dX2_copyFrom_8 : decode cX2_copyFrom 8 = .ok (.invokestatic 44, 3) := by decide +kernel
theorem dX2_copyFrom_11 : decode cX2_copyFrom 11 = .ok (.aload_n 1, 1) := by decide +kernel
theorem dX2_copyFrom_12 : decode cX2_copyFrom 12 = .ok (.getfield 15, 3) := by decide +kernel
theorem dX2_copyFrom_15 : decode cX2_copyFrom 15 = .ok (.aload_n 0, 1) := by decide +kernel
theorem dX2_copyFrom_16 : decode cX2_copyFrom 16 = .ok (.getfield 15, 3) := by decide +kernel
theorem dX2_copyFrom_19 : decode cX2_copyFrom 19 = .ok (.invokestatic 44, 3) := by decide +kernel
theorem dX2_copyFrom_22 : decode cX2_copyFrom 22 = .ok (.aload_n 1, 1) := by decide +kernel
theorem dX2_copyFrom_23 : decode cX2_copyFrom 23 = .ok (.getfield 18, 3) := by decide +kernel
theorem dX2_copyFrom_26 : decode cX2_copyFrom 26 = .ok (.aload_n 0, 1) := by decide +kernel
theorem dX2_copyFrom_27 : decode cX2_copyFrom 27 = .ok (.getfield 18, 3) := by decide +kernel
theorem dX2_copyFrom_30 : decode cX2_copyFrom 30 = .ok (.invokestatic 44, 3) := by decide +kernel
theorem dX2_copyFrom_33 : decode cX2_copyFrom 33 = .ok (.aload_n 1, 1) := by decide +kernel
theorem dX2_copyFrom_34 : decode cX2_copyFrom 34 = .ok (.getfield 21, 3) := by decide +kernel
theorem dX2_copyFrom_37 : decode cX2_copyFrom 37 = .ok (.aload_n 0, 1) := by decide +kernel
theorem dX2_copyFrom_38 : decode cX2_copyFrom 38 = .ok (.getfield 21, 3) := by decide +kernel
theorem dX2_copyFrom_41 : decode cX2_copyFrom 41 = .ok (.invokestatic 44, 3) := by decide +kernel
theorem dX2_copyFrom_44 : decode cX2_copyFrom 44 = .ok (.aload_n 1, 1) := by decide +kernel
theorem dX2_copyFrom_45 : decode cX2_copyFrom 45 = .ok (.getfield 24, 3) := by decide +kernel
theorem dX2_copyFrom_48 : decode cX2_copyFrom 48 = .ok (.aload_n 0, 1) := by decide +kernel
theorem dX2_copyFrom_49 : decode cX2_copyFrom 49 = .ok (.getfield 24, 3) := by decide +kernel
theorem dX2_copyFrom_52 : decode cX2_copyFrom 52 = .ok (.invokestatic 44, 3) := by decide +kernel
theorem dX2_copyFrom_55 : decode cX2_copyFrom 55 = .ok (.aload_n 1, 1) := by decide +kernel
theorem dX2_copyFrom_56 : decode cX2_copyFrom 56 = .ok (.getfield 27, 3) := by decide +kernel
theorem dX2_copyFrom_59 : decode cX2_copyFrom 59 = .ok (.aload_n 0, 1) := by decide +kernel
theorem dX2_copyFrom_60 : decode cX2_copyFrom 60 = .ok (.getfield 27, 3) := by decide +kernel
theorem dX2_copyFrom_63 : decode cX2_copyFrom 63 = .ok (.invokestatic 44, 3) := by decide +kernel
theorem dX2_copyFrom_66 : decode cX2_copyFrom 66 = .ok (.return_, 1) := by decide +kernel
theorem dX2_boatOf_0 : decode cX2_boatOf 0 = .ok (.aload_n 0, 1) := by decide +kernel
theorem dX2_boatOf_1 : decode cX2_boatOf 1 = .ok (.getfield 9, 3) := by decide +kernel
theorem dX2_boatOf_4 : decode cX2_boatOf 4 = .ok (.iload_n 1, 1) := by decide +kernel
theorem dX2_boatOf_5 : decode cX2_boatOf 5 = .ok (.bipush (-2), 2) := by decide +kernel
theorem dX2_boatOf_7 : decode cX2_boatOf 7 = .ok (.invokestatic 48, 3) := by decide +kernel
theorem dX2_boatOf_10 : decode cX2_boatOf 10 = .ok (.ireturn, 1) := by decide +kernel
theorem dX2_isAtSea_0 : decode cX2_isAtSea 0 = .ok (.aload_n 0, 1) := by decide +kernel
theorem dX2_isAtSea_1 : decode cX2_isAtSea 1 = .ok (.getfield 15, 3) := by decide +kernel
theorem dX2_isAtSea_4 : decode cX2_isAtSea 4 = .ok (.iload_n 1, 1) := by decide +kernel
theorem dX2_isAtSea_5 : decode cX2_isAtSea 5 = .ok (.iconst 0, 1) := by decide +kernel
theorem dX2_isAtSea_6 : decode cX2_isAtSea 6 = .ok (.invokestatic 48, 3) := by decide +kernel
theorem dX2_isAtSea_9 : decode cX2_isAtSea 9 = .ok (.ifCond .eq 7, 3) := by decide +kernel
theorem dX2_isAtSea_12 : decode cX2_isAtSea 12 = .ok (.iconst 1, 1) := by decide +kernel
theorem dX2_isAtSea_13 : decode cX2_isAtSea 13 = .ok (.goto 4, 3) := by decide +kernel
theorem dX2_isAtSea_16 : decode cX2_isAtSea 16 = .ok (.iconst 0, 1) := by decide +kernel
theorem dX2_isAtSea_17 : decode cX2_isAtSea 17 = .ok (.ireturn, 1) := by decide +kernel
theorem dX2_faultsOf_0 : decode cX2_faultsOf 0 = .ok (.aload_n 0, 1) := by decide +kernel
theorem dX2_faultsOf_1 : decode cX2_faultsOf 1 = .ok (.getfield 18, 3) := by decide +kernel
theorem dX2_faultsOf_4 : decode cX2_faultsOf 4 = .ok (.iload_n 1, 1) := by decide +kernel
theorem dX2_faultsOf_5 : decode cX2_faultsOf 5 = .ok (.iconst 0, 1) := by decide +kernel
theorem dX2_faultsOf_6 : decode cX2_faultsOf 6 = .ok (.invokestatic 48, 3) := by decide +kernel
theorem dX2_faultsOf_9 : decode cX2_faultsOf 9 = .ok (.ireturn, 1) := by decide +kernel
theorem dX2_daysAtSeaOf_0 : decode cX2_daysAtSeaOf 0 = .ok (.aload_n 0, 1) := by decide +kernel
theorem dX2_daysAtSeaOf_1 : decode cX2_daysAtSeaOf 1 = .ok (.getfield 21, 3) := by decide +kernel
theorem dX2_daysAtSeaOf_4 : decode cX2_daysAtSeaOf 4 = .ok (.iload_n 1, 1) := by decide +kernel
theorem dX2_daysAtSeaOf_5 : decode cX2_daysAtSeaOf 5 = .ok (.iconst 0, 1) := by decide +kernel
theorem dX2_daysAtSeaOf_6 : decode cX2_daysAtSeaOf 6 = .ok (.invokestatic 48, 3) := by decide +kernel
theorem dX2_daysAtSeaOf_9 : decode cX2_daysAtSeaOf 9 = .ok (.ireturn, 1) := by decide +kernel
theorem dX2_isOut_0 : decode cX2_isOut 0 = .ok (.aload_n 0, 1) := by decide +kernel
theorem dX2_isOut_1 : decode cX2_isOut 1 = .ok (.getfield 24, 3) := by decide +kernel
theorem dX2_isOut_4 : decode cX2_isOut 4 = .ok (.iload_n 1, 1) := by decide +kernel
theorem dX2_isOut_5 : decode cX2_isOut 5 = .ok (.iconst 0, 1) := by decide +kernel
theorem dX2_isOut_6 : decode cX2_isOut 6 = .ok (.invokestatic 48, 3) := by decide +kernel
theorem dX2_isOut_9 : decode cX2_isOut 9 = .ok (.ifCond .eq 7, 3) := by decide +kernel
theorem dX2_isOut_12 : decode cX2_isOut 12 = .ok (.iconst 1, 1) := by decide +kernel
theorem dX2_isOut_13 : decode cX2_isOut 13 = .ok (.goto 4, 3) := by decide +kernel
theorem dX2_isOut_16 : decode cX2_isOut 16 = .ok (.iconst 0, 1) := by decide +kernel
theorem dX2_isOut_17 : decode cX2_isOut 17 = .ok (.ireturn, 1) := by decide +kernel
theorem dX2_backOf_0 : decode cX2_backOf 0 = .ok (.aload_n 0, 1) := by decide +kernel
theorem dX2_backOf_1 : decode cX2_backOf 1 = .ok (.getfield 24, 3) := by decide +kernel
theorem dX2_backOf_4 : decode cX2_backOf 4 = .ok (.iload_n 1, 1) := by decide +kernel
theorem dX2_backOf_5 : decode cX2_backOf 5 = .ok (.iconst 0, 1) := by decide +kernel
theorem dX2_backOf_6 : decode cX2_backOf 6 = .ok (.invokestatic 48, 3) := by decide +kernel
theorem dX2_backOf_9 : decode cX2_backOf 9 = .ok (.ireturn, 1) := by decide +kernel
theorem dX2_sailedOf_0 : decode cX2_sailedOf 0 = .ok (.aload_n 0, 1) := by decide +kernel
theorem dX2_sailedOf_1 : decode cX2_sailedOf 1 = .ok (.getfield 27, 3) := by decide +kernel
theorem dX2_sailedOf_4 : decode cX2_sailedOf 4 = .ok (.iload_n 1, 1) := by decide +kernel
theorem dX2_sailedOf_5 : decode cX2_sailedOf 5 = .ok (.iconst 0, 1) := by decide +kernel
theorem dX2_sailedOf_6 : decode cX2_sailedOf 6 = .ok (.invokestatic 48, 3) := by decide +kernel
theorem dX2_sailedOf_9 : decode cX2_sailedOf 9 = .ok (.ireturn, 1) := by decide +kernel
theorem dX2_assign_0 : decode cX2_assign 0 = .ok (.aload_n 0, 1) := by decide +kernel
theorem dX2_assign_1 : decode cX2_assign 1 = .ok (.getfield 9, 3) := by decide +kernel
theorem dX2_assign_4 : decode cX2_assign 4 = .ok (.iload_n 1, 1) := by decide +kernel
theorem dX2_assign_5 : decode cX2_assign 5 = .ok (.iload_n 2, 1) := by decide +kernel
theorem dX2_assign_6 : decode cX2_assign 6 = .ok (.invokestatic 52, 3) := by decide +kernel
theorem dX2_assign_9 : decode cX2_assign 9 = .ok (.return_, 1) := by decide +kernel
theorem dX2_addFault_0 : decode cX2_addFault 0 = .ok (.aload_n 0, 1) := by decide +kernel
theorem dX2_addFault_1 : decode cX2_addFault 1 = .ok (.getfield 18, 3) := by decide +kernel
theorem dX2_addFault_4 : decode cX2_addFault 4 = .ok (.iload_n 1, 1) := by decide +kernel
theorem dX2_addFault_5 : decode cX2_addFault 5 = .ok (.aload_n 0, 1) := by decide +kernel
theorem dX2_addFault_6 : decode cX2_addFault 6 = .ok (.iload_n 1, 1) := by decide +kernel
theorem dX2_addFault_7 : decode cX2_addFault 7 = .ok (.invokevirtual 56, 3) := by decide +kernel
theorem dX2_addFault_10 : decode cX2_addFault 10 = .ok (.iconst 1, 1) := by decide +kernel
theorem dX2_addFault_11 : decode cX2_addFault 11 = .ok (.iadd, 1) := by decide +kernel
theorem dX2_addFault_12 : decode cX2_addFault 12 = .ok (.invokestatic 52, 3) := by decide +kernel
theorem dX2_addFault_15 : decode cX2_addFault 15 = .ok (.return_, 1) := by decide +kernel
theorem dX2_moveBack_0 : decode cX2_moveBack 0 = .ok (.aload_n 0, 1) := by decide +kernel
theorem dX2_moveBack_1 : decode cX2_moveBack 1 = .ok (.getfield 24, 3) := by decide +kernel
theorem dX2_moveBack_4 : decode cX2_moveBack 4 = .ok (.iload_n 1, 1) := by decide +kernel
theorem dX2_moveBack_5 : decode cX2_moveBack 5 = .ok (.aload_n 0, 1) := by decide +kernel
theorem dX2_moveBack_6 : decode cX2_moveBack 6 = .ok (.iload_n 1, 1) := by decide +kernel
theorem dX2_moveBack_7 : decode cX2_moveBack 7 = .ok (.invokevirtual 59, 3) := by decide +kernel
theorem dX2_moveBack_10 : decode cX2_moveBack 10 = .ok (.iload_n 2, 1) := by decide +kernel
theorem dX2_moveBack_11 : decode cX2_moveBack 11 = .ok (.iadd, 1) := by decide +kernel
theorem dX2_moveBack_12 : decode cX2_moveBack 12 = .ok (.invokestatic 52, 3) := by decide +kernel
theorem dX2_moveBack_15 : decode cX2_moveBack 15 = .ok (.return_, 1) := by decide +kernel
theorem dX2_leave_0 : decode cX2_leave 0 = .ok (.aload_n 0, 1) := by decide +kernel
theorem dX2_leave_1 : decode cX2_leave 1 = .ok (.getfield 24, 3) := by decide +kernel
theorem dX2_leave_4 : decode cX2_leave 4 = .ok (.iload_n 1, 1) := by decide +kernel
theorem dX2_leave_5 : decode cX2_leave 5 = .ok (.iload_n 2, 1) := by decide +kernel
theorem dX2_leave_6 : decode cX2_leave 6 = .ok (.invokestatic 52, 3) := by decide +kernel
theorem dX2_leave_9 : decode cX2_leave 9 = .ok (.aload_n 0, 1) := by decide +kernel
theorem dX2_leave_10 : decode cX2_leave 10 = .ok (.getfield 27, 3) := by decide +kernel
theorem dX2_leave_13 : decode cX2_leave 13 = .ok (.iload_n 1, 1) := by decide +kernel
theorem dX2_leave_14 : decode cX2_leave 14 = .ok (.aload_n 0, 1) := by decide +kernel
theorem dX2_leave_15 : decode cX2_leave 15 = .ok (.iload_n 1, 1) := by decide +kernel
theorem dX2_leave_16 : decode cX2_leave 16 = .ok (.invokevirtual 62, 3) := by decide +kernel
theorem dX2_leave_19 : decode cX2_leave 19 = .ok (.iconst 1, 1) := by decide +kernel
theorem dX2_leave_20 : decode cX2_leave 20 = .ok (.iadd, 1) := by decide +kernel
theorem dX2_leave_21 : decode cX2_leave 21 = .ok (.invokestatic 52, 3) := by decide +kernel
theorem dX2_leave_24 : decode cX2_leave 24 = .ok (.iconst 0, 1) := by decide +kernel
theorem dX2_leave_25 : decode cX2_leave 25 = .ok (.istore_n 3, 1) := by decide +kernel
theorem dX2_leave_26 : decode cX2_leave 26 = .ok (.iload_n 3, 1) := by decide +kernel
theorem dX2_leave_27 : decode cX2_leave 27 = .ok (.bipush 20, 2) := by decide +kernel
theorem dX2_leave_29 : decode cX2_leave 29 = .ok (.if_icmp .ge 27, 3) := by decide +kernel
theorem dX2_leave_32 : decode cX2_leave 32 = .ok (.aload_n 0, 1) := by decide +kernel
theorem dX2_leave_33 : decode cX2_leave 33 = .ok (.iload_n 3, 1) := by decide +kernel
theorem dX2_leave_34 : decode cX2_leave 34 = .ok (.invokevirtual 65, 3) := by decide +kernel
theorem dX2_leave_37 : decode cX2_leave 37 = .ok (.iload_n 1, 1) := by decide +kernel
theorem dX2_leave_38 : decode cX2_leave 38 = .ok (.if_icmp .ne 12, 3) := by decide +kernel
theorem dX2_leave_41 : decode cX2_leave 41 = .ok (.aload_n 0, 1) := by decide +kernel
theorem dX2_leave_42 : decode cX2_leave 42 = .ok (.getfield 15, 3) := by decide +kernel
theorem dX2_leave_45 : decode cX2_leave 45 = .ok (.iload_n 3, 1) := by decide +kernel
theorem dX2_leave_46 : decode cX2_leave 46 = .ok (.iconst 1, 1) := by decide +kernel
theorem dX2_leave_47 : decode cX2_leave 47 = .ok (.invokestatic 52, 3) := by decide +kernel
theorem dX2_leave_50 : decode cX2_leave 50 = .ok (.iinc 3 1, 3) := by decide +kernel
theorem dX2_leave_53 : decode cX2_leave 53 = .ok (.goto (-27), 3) := by decide +kernel
theorem dX2_leave_56 : decode cX2_leave 56 = .ok (.aload_n 0, 1) := by decide +kernel
theorem dX2_leave_57 : decode cX2_leave 57 = .ok (.iload_n 1, 1) := by decide +kernel
theorem dX2_leave_58 : decode cX2_leave 58 = .ok (.invokevirtual 67, 3) := by decide +kernel
theorem dX2_leave_61 : decode cX2_leave 61 = .ok (.ireturn, 1) := by decide +kernel
theorem dX2_arrive_0 : decode cX2_arrive 0 = .ok (.aload_n 0, 1) := by decide +kernel
theorem dX2_arrive_1 : decode cX2_arrive 1 = .ok (.iload_n 1, 1) := by decide +kernel
theorem dX2_arrive_2 : decode cX2_arrive 2 = .ok (.invokevirtual 67, 3) := by decide +kernel
theorem dX2_arrive_5 : decode cX2_arrive 5 = .ok (.istore_n 2, 1) := by decide +kernel
theorem dX2_arrive_6 : decode cX2_arrive 6 = .ok (.aload_n 0, 1) := by decide +kernel
theorem dX2_arrive_7 : decode cX2_arrive 7 = .ok (.getfield 24, 3) := by decide +kernel
theorem dX2_arrive_10 : decode cX2_arrive 10 = .ok (.iload_n 1, 1) := by decide +kernel
theorem dX2_arrive_11 : decode cX2_arrive 11 = .ok (.iconst 0, 1) := by decide +kernel
theorem dX2_arrive_12 : decode cX2_arrive 12 = .ok (.invokestatic 52, 3) := by decide +kernel
theorem dX2_arrive_15 : decode cX2_arrive 15 = .ok (.iconst 0, 1) := by decide +kernel
theorem dX2_arrive_16 : decode cX2_arrive 16 = .ok (.istore_n 3, 1) := by decide +kernel
theorem dX2_arrive_17 : decode cX2_arrive 17 = .ok (.iload_n 3, 1) := by decide +kernel
theorem dX2_arrive_18 : decode cX2_arrive 18 = .ok (.bipush 20, 2) := by decide +kernel
theorem dX2_arrive_20 : decode cX2_arrive 20 = .ok (.if_icmp .ge 27, 3) := by decide +kernel
theorem dX2_arrive_23 : decode cX2_arrive 23 = .ok (.aload_n 0, 1) := by decide +kernel
theorem dX2_arrive_24 : decode cX2_arrive 24 = .ok (.iload_n 3, 1) := by decide +kernel
theorem dX2_arrive_25 : decode cX2_arrive 25 = .ok (.invokevirtual 65, 3) := by decide +kernel
theorem dX2_arrive_28 : decode cX2_arrive 28 = .ok (.iload_n 1, 1) := by decide +kernel
theorem dX2_arrive_29 : decode cX2_arrive 29 = .ok (.if_icmp .ne 12, 3) := by decide +kernel
theorem dX2_arrive_32 : decode cX2_arrive 32 = .ok (.aload_n 0, 1) := by decide +kernel
theorem dX2_arrive_33 : decode cX2_arrive 33 = .ok (.getfield 15, 3) := by decide +kernel
theorem dX2_arrive_36 : decode cX2_arrive 36 = .ok (.iload_n 3, 1) := by decide +kernel
theorem dX2_arrive_37 : decode cX2_arrive 37 = .ok (.iconst 0, 1) := by decide +kernel
theorem dX2_arrive_38 : decode cX2_arrive 38 = .ok (.invokestatic 52, 3) := by decide +kernel
theorem dX2_arrive_41 : decode cX2_arrive 41 = .ok (.iinc 3 1, 3) := by decide +kernel
theorem dX2_arrive_44 : decode cX2_arrive 44 = .ok (.goto (-27), 3) := by decide +kernel
theorem dX2_arrive_47 : decode cX2_arrive 47 = .ok (.iload_n 2, 1) := by decide +kernel
theorem dX2_arrive_48 : decode cX2_arrive 48 = .ok (.ireturn, 1) := by decide +kernel
theorem dX2_countDayAtSea_0 : decode cX2_countDayAtSea 0 = .ok (.iconst 0, 1) := by decide +kernel
theorem dX2_countDayAtSea_1 : decode cX2_countDayAtSea 1 = .ok (.istore_n 1, 1) := by decide +kernel
theorem dX2_countDayAtSea_2 : decode cX2_countDayAtSea 2 = .ok (.iload_n 1, 1) := by decide +kernel
theorem dX2_countDayAtSea_3 : decode cX2_countDayAtSea 3 = .ok (.bipush 20, 2) := by decide +kernel
theorem dX2_countDayAtSea_5 : decode cX2_countDayAtSea 5 = .ok (.if_icmp .ge 32, 3) := by decide +kernel
theorem dX2_countDayAtSea_8 : decode cX2_countDayAtSea 8 = .ok (.aload_n 0, 1) := by decide +kernel
theorem dX2_countDayAtSea_9 : decode cX2_countDayAtSea 9 = .ok (.iload_n 1, 1) := by decide +kernel
theorem dX2_countDayAtSea_10 : decode cX2_countDayAtSea 10 = .ok (.invokevirtual 70, 3) := by decide +kernel
theorem dX2_countDayAtSea_13 : decode cX2_countDayAtSea 13 = .ok (.ifCond .eq 18, 3) := by decide +kernel
theorem dX2_countDayAtSea_16 : decode cX2_countDayAtSea 16 = .ok (.aload_n 0, 1) := by decide +kernel
theorem dX2_countDayAtSea_17 : decode cX2_countDayAtSea 17 = .ok (.getfield 21, 3) := by decide +kernel
theorem dX2_countDayAtSea_20 : decode cX2_countDayAtSea 20 = .ok (.iload_n 1, 1) := by decide +kernel
theorem dX2_countDayAtSea_21 : decode cX2_countDayAtSea 21 = .ok (.aload_n 0, 1) := by decide +kernel
theorem dX2_countDayAtSea_22 : decode cX2_countDayAtSea 22 = .ok (.iload_n 1, 1) := by decide +kernel
theorem dX2_countDayAtSea_23 : decode cX2_countDayAtSea 23 = .ok (.invokevirtual 74, 3) := by decide +kernel
theorem dX2_countDayAtSea_26 : decode cX2_countDayAtSea 26 = .ok (.iconst 1, 1) := by decide +kernel
theorem dX2_countDayAtSea_27 : decode cX2_countDayAtSea 27 = .ok (.iadd, 1) := by decide +kernel
theorem dX2_countDayAtSea_28 : decode cX2_countDayAtSea 28 = .ok (.invokestatic 52, 3) := by decide +kernel
theorem dX2_countDayAtSea_31 : decode cX2_countDayAtSea 31 = .ok (.iinc 1 1, 3) := by decide +kernel
theorem dX2_countDayAtSea_34 : decode cX2_countDayAtSea 34 = .ok (.goto (-32), 3) := by decide +kernel
theorem dX2_countDayAtSea_37 : decode cX2_countDayAtSea 37 = .ok (.return_, 1) := by decide +kernel
theorem dX2_aboard_0 : decode cX2_aboard 0 = .ok (.iconst 0, 1) := by decide +kernel
theorem dX2_aboard_1 : decode cX2_aboard 1 = .ok (.istore_n 2, 1) := by decide +kernel
theorem dX2_aboard_2 : decode cX2_aboard 2 = .ok (.iconst 0, 1) := by decide +kernel
theorem dX2_aboard_3 : decode cX2_aboard 3 = .ok (.istore_n 3, 1) := by decide +kernel
theorem dX2_aboard_4 : decode cX2_aboard 4 = .ok (.iload_n 3, 1) := by decide +kernel
theorem dX2_aboard_5 : decode cX2_aboard 5 = .ok (.bipush 20, 2) := by decide +kernel
theorem dX2_aboard_7 : decode cX2_aboard 7 = .ok (.if_icmp .ge 29, 3) := by decide +kernel
theorem dX2_aboard_10 : decode cX2_aboard 10 = .ok (.aload_n 0, 1) := by decide +kernel
theorem dX2_aboard_11 : decode cX2_aboard 11 = .ok (.iload_n 3, 1) := by decide +kernel
theorem dX2_aboard_12 : decode cX2_aboard 12 = .ok (.invokevirtual 65, 3) := by decide +kernel
theorem dX2_aboard_15 : decode cX2_aboard 15 = .ok (.iload_n 1, 1) := by decide +kernel
theorem dX2_aboard_16 : decode cX2_aboard 16 = .ok (.if_icmp .ne 14, 3) := by decide +kernel
theorem dX2_aboard_19 : decode cX2_aboard 19 = .ok (.aload_n 0, 1) := by decide +kernel
theorem dX2_aboard_20 : decode cX2_aboard 20 = .ok (.iload_n 3, 1) := by decide +kernel
theorem dX2_aboard_21 : decode cX2_aboard 21 = .ok (.invokevirtual 70, 3) := by decide +kernel
theorem dX2_aboard_24 : decode cX2_aboard 24 = .ok (.ifCond .eq 6, 3) := by decide +kernel
theorem dX2_aboard_27 : decode cX2_aboard 27 = .ok (.iinc 2 1, 3) := by decide +kernel
theorem dX2_aboard_30 : decode cX2_aboard 30 = .ok (.iinc 3 1, 3) := by decide +kernel
theorem dX2_aboard_33 : decode cX2_aboard 33 = .ok (.goto (-29), 3) := by decide +kernel
theorem dX2_aboard_36 : decode cX2_aboard 36 = .ok (.iload_n 2, 1) := by decide +kernel
theorem dX2_aboard_37 : decode cX2_aboard 37 = .ok (.ireturn, 1) := by decide +kernel
theorem dX2_belongingTo_0 : decode cX2_belongingTo 0 = .ok (.iconst 0, 1) := by decide +kernel
theorem dX2_belongingTo_1 : decode cX2_belongingTo 1 = .ok (.istore_n 2, 1) := by decide +kernel
theorem dX2_belongingTo_2 : decode cX2_belongingTo 2 = .ok (.iconst 0, 1) := by decide +kernel
theorem dX2_belongingTo_3 : decode cX2_belongingTo 3 = .ok (.istore_n 3, 1) := by decide +kernel
theorem dX2_belongingTo_4 : decode cX2_belongingTo 4 = .ok (.iload_n 3, 1) := by decide +kernel
theorem dX2_belongingTo_5 : decode cX2_belongingTo 5 = .ok (.bipush 20, 2) := by decide +kernel
theorem dX2_belongingTo_7 : decode cX2_belongingTo 7 = .ok (.if_icmp .ge 21, 3) := by decide +kernel
theorem dX2_belongingTo_10 : decode cX2_belongingTo 10 = .ok (.aload_n 0, 1) := by decide +kernel
theorem dX2_belongingTo_11 : decode cX2_belongingTo 11 = .ok (.iload_n 3, 1) := by decide +kernel
theorem dX2_belongingTo_12 : decode cX2_belongingTo 12 = .ok (.invokevirtual 65, 3) := by decide +kernel
theorem dX2_belongingTo_15 : decode cX2_belongingTo 15 = .ok (.iload_n 1, 1) := by decide +kernel
theorem dX2_belongingTo_16 : decode cX2_belongingTo 16 = .ok (.if_icmp .ne 6, 3) := by decide +kernel
theorem dX2_belongingTo_19 : decode cX2_belongingTo 19 = .ok (.iinc 2 1, 3) := by decide +kernel
theorem dX2_belongingTo_22 : decode cX2_belongingTo 22 = .ok (.iinc 3 1, 3) := by decide +kernel
theorem dX2_belongingTo_25 : decode cX2_belongingTo 25 = .ok (.goto (-21), 3) := by decide +kernel
theorem dX2_belongingTo_28 : decode cX2_belongingTo 28 = .ok (.iload_n 2, 1) := by decide +kernel
theorem dX2_belongingTo_29 : decode cX2_belongingTo 29 = .ok (.ireturn, 1) := by decide +kernel
theorem dX2_boatsOut_0 : decode cX2_boatsOut 0 = .ok (.iconst 0, 1) := by decide +kernel
theorem dX2_boatsOut_1 : decode cX2_boatsOut 1 = .ok (.istore_n 1, 1) := by decide +kernel
theorem dX2_boatsOut_2 : decode cX2_boatsOut 2 = .ok (.iconst 0, 1) := by decide +kernel
theorem dX2_boatsOut_3 : decode cX2_boatsOut 3 = .ok (.istore_n 2, 1) := by decide +kernel
theorem dX2_boatsOut_4 : decode cX2_boatsOut 4 = .ok (.iload_n 2, 1) := by decide +kernel
theorem dX2_boatsOut_5 : decode cX2_boatsOut 5 = .ok (.bipush 6, 2) := by decide +kernel
theorem dX2_boatsOut_7 : decode cX2_boatsOut 7 = .ok (.if_icmp .ge 20, 3) := by decide +kernel
theorem dX2_boatsOut_10 : decode cX2_boatsOut 10 = .ok (.aload_n 0, 1) := by decide +kernel
theorem dX2_boatsOut_11 : decode cX2_boatsOut 11 = .ok (.iload_n 2, 1) := by decide +kernel
theorem dX2_boatsOut_12 : decode cX2_boatsOut 12 = .ok (.invokevirtual 77, 3) := by decide +kernel
theorem dX2_boatsOut_15 : decode cX2_boatsOut 15 = .ok (.ifCond .eq 6, 3) := by decide +kernel
theorem dX2_boatsOut_18 : decode cX2_boatsOut 18 = .ok (.iinc 1 1, 3) := by decide +kernel
theorem dX2_boatsOut_21 : decode cX2_boatsOut 21 = .ok (.iinc 2 1, 3) := by decide +kernel
theorem dX2_boatsOut_24 : decode cX2_boatsOut 24 = .ok (.goto (-20), 3) := by decide +kernel
theorem dX2_boatsOut_27 : decode cX2_boatsOut 27 = .ok (.iload_n 1, 1) := by decide +kernel
theorem dX2_boatsOut_28 : decode cX2_boatsOut 28 = .ok (.ireturn, 1) := by decide +kernel
theorem dX2_boatsOutOn_0 : decode cX2_boatsOutOn 0 = .ok (.iconst 0, 1) := by decide +kernel
theorem dX2_boatsOutOn_1 : decode cX2_boatsOutOn 1 = .ok (.istore_n 2, 1) := by decide +kernel
theorem dX2_boatsOutOn_2 : decode cX2_boatsOutOn 2 = .ok (.iconst 0, 1) := by decide +kernel
theorem dX2_boatsOutOn_3 : decode cX2_boatsOutOn 3 = .ok (.istore_n 3, 1) := by decide +kernel
theorem dX2_boatsOutOn_4 : decode cX2_boatsOutOn 4 = .ok (.iload_n 3, 1) := by decide +kernel
theorem dX2_boatsOutOn_5 : decode cX2_boatsOutOn 5 = .ok (.bipush 6, 2) := by decide +kernel
theorem dX2_boatsOutOn_7 : decode cX2_boatsOutOn 7 = .ok (.if_icmp .ge 29, 3) := by decide +kernel
theorem dX2_boatsOutOn_10 : decode cX2_boatsOutOn 10 = .ok (.aload_n 0, 1) := by decide +kernel
theorem dX2_boatsOutOn_11 : decode cX2_boatsOutOn 11 = .ok (.iload_n 3, 1) := by decide +kernel
theorem dX2_boatsOutOn_12 : decode cX2_boatsOutOn 12 = .ok (.invokevirtual 77, 3) := by decide +kernel
theorem dX2_boatsOutOn_15 : decode cX2_boatsOutOn 15 = .ok (.ifCond .eq 15, 3) := by decide +kernel
theorem dX2_boatsOutOn_18 : decode cX2_boatsOutOn 18 = .ok (.aload_n 0, 1) := by decide +kernel
theorem dX2_boatsOutOn_19 : decode cX2_boatsOutOn 19 = .ok (.iload_n 3, 1) := by decide +kernel
theorem dX2_boatsOutOn_20 : decode cX2_boatsOutOn 20 = .ok (.invokevirtual 59, 3) := by decide +kernel
theorem dX2_boatsOutOn_23 : decode cX2_boatsOutOn 23 = .ok (.iload_n 1, 1) := by decide +kernel
theorem dX2_boatsOutOn_24 : decode cX2_boatsOutOn 24 = .ok (.if_icmp .le 6, 3) := by decide +kernel
theorem dX2_boatsOutOn_27 : decode cX2_boatsOutOn 27 = .ok (.iinc 2 1, 3) := by decide +kernel
theorem dX2_boatsOutOn_30 : decode cX2_boatsOutOn 30 = .ok (.iinc 3 1, 3) := by decide +kernel
theorem dX2_boatsOutOn_33 : decode cX2_boatsOutOn 33 = .ok (.goto (-29), 3) := by decide +kernel
theorem dX2_boatsOutOn_36 : decode cX2_boatsOutOn 36 = .ok (.iload_n 2, 1) := by decide +kernel
theorem dX2_boatsOutOn_37 : decode cX2_boatsOutOn 37 = .ok (.ireturn, 1) := by decide +kernel
theorem dX2_peopleAtSea_0 : decode cX2_peopleAtSea 0 = .ok (.iconst 0, 1) := by decide +kernel
theorem dX2_peopleAtSea_1 : decode cX2_peopleAtSea 1 = .ok (.istore_n 1, 1) := by decide +kernel
theorem dX2_peopleAtSea_2 : decode cX2_peopleAtSea 2 = .ok (.iconst 0, 1) := by decide +kernel
theorem dX2_peopleAtSea_3 : decode cX2_peopleAtSea 3 = .ok (.istore_n 2, 1) := by decide +kernel
theorem dX2_peopleAtSea_4 : decode cX2_peopleAtSea 4 = .ok (.iload_n 2, 1) := by decide +kernel
theorem dX2_peopleAtSea_5 : decode cX2_peopleAtSea 5 = .ok (.bipush 20, 2) := by decide +kernel
theorem dX2_peopleAtSea_7 : decode cX2_peopleAtSea 7 = .ok (.if_icmp .ge 20, 3) := by decide +kernel
theorem dX2_peopleAtSea_10 : decode cX2_peopleAtSea 10 = .ok (.aload_n 0, 1) := by decide +kernel
theorem dX2_peopleAtSea_11 : decode cX2_peopleAtSea 11 = .ok (.iload_n 2, 1) := by decide +kernel
theorem dX2_peopleAtSea_12 : decode cX2_peopleAtSea 12 = .ok (.invokevirtual 70, 3) := by decide +kernel
theorem dX2_peopleAtSea_15 : decode cX2_peopleAtSea 15 = .ok (.ifCond .eq 6, 3) := by decide +kernel
theorem dX2_peopleAtSea_18 : decode cX2_peopleAtSea 18 = .ok (.iinc 1 1, 3) := by decide +kernel
theorem dX2_peopleAtSea_21 : decode cX2_peopleAtSea 21 = .ok (.iinc 2 1, 3) := by decide +kernel
theorem dX2_peopleAtSea_24 : decode cX2_peopleAtSea 24 = .ok (.goto (-20), 3) := by decide +kernel
theorem dX2_peopleAtSea_27 : decode cX2_peopleAtSea 27 = .ok (.iload_n 1, 1) := by decide +kernel
theorem dX2_peopleAtSea_28 : decode cX2_peopleAtSea 28 = .ok (.ireturn, 1) := by decide +kernel
theorem dX2_peopleAtSeaOn_0 : decode cX2_peopleAtSeaOn 0 = .ok (.iconst 0, 1) := by decide +kernel
theorem dX2_peopleAtSeaOn_1 : decode cX2_peopleAtSeaOn 1 = .ok (.istore_n 2, 1) := by decide +kernel
theorem dX2_peopleAtSeaOn_2 : decode cX2_peopleAtSeaOn 2 = .ok (.iconst 0, 1) := by decide +kernel
theorem dX2_peopleAtSeaOn_3 : decode cX2_peopleAtSeaOn 3 = .ok (.istore_n 3, 1) := by decide +kernel
theorem dX2_peopleAtSeaOn_4 : decode cX2_peopleAtSeaOn 4 = .ok (.iload_n 3, 1) := by decide +kernel
theorem dX2_peopleAtSeaOn_5 : decode cX2_peopleAtSeaOn 5 = .ok (.bipush 20, 2) := by decide +kernel
theorem dX2_peopleAtSeaOn_7 : decode cX2_peopleAtSeaOn 7 = .ok (.if_icmp .ge 33, 3) := by decide +kernel
theorem dX2_peopleAtSeaOn_10 : decode cX2_peopleAtSeaOn 10 = .ok (.aload_n 0, 1) := by decide +kernel
theorem dX2_peopleAtSeaOn_11 : decode cX2_peopleAtSeaOn 11 = .ok (.iload_n 3, 1) := by decide +kernel
theorem dX2_peopleAtSeaOn_12 : decode cX2_peopleAtSeaOn 12 = .ok (.invokevirtual 70, 3) := by decide +kernel
theorem dX2_peopleAtSeaOn_15 : decode cX2_peopleAtSeaOn 15 = .ok (.ifCond .eq 19, 3) := by decide +kernel
theorem dX2_peopleAtSeaOn_18 : decode cX2_peopleAtSeaOn 18 = .ok (.aload_n 0, 1) := by decide +kernel
theorem dX2_peopleAtSeaOn_19 : decode cX2_peopleAtSeaOn 19 = .ok (.aload_n 0, 1) := by decide +kernel
theorem dX2_peopleAtSeaOn_20 : decode cX2_peopleAtSeaOn 20 = .ok (.iload_n 3, 1) := by decide +kernel
theorem dX2_peopleAtSeaOn_21 : decode cX2_peopleAtSeaOn 21 = .ok (.invokevirtual 65, 3) := by decide +kernel
theorem dX2_peopleAtSeaOn_24 : decode cX2_peopleAtSeaOn 24 = .ok (.invokevirtual 59, 3) := by decide +kernel
theorem dX2_peopleAtSeaOn_27 : decode cX2_peopleAtSeaOn 27 = .ok (.iload_n 1, 1) := by decide +kernel
theorem dX2_peopleAtSeaOn_28 : decode cX2_peopleAtSeaOn 28 = .ok (.if_icmp .le 6, 3) := by decide +kernel
theorem dX2_peopleAtSeaOn_31 : decode cX2_peopleAtSeaOn 31 = .ok (.iinc 2 1, 3) := by decide +kernel
theorem dX2_peopleAtSeaOn_34 : decode cX2_peopleAtSeaOn 34 = .ok (.iinc 3 1, 3) := by decide +kernel
theorem dX2_peopleAtSeaOn_37 : decode cX2_peopleAtSeaOn 37 = .ok (.goto (-33), 3) := by decide +kernel
theorem dX2_peopleAtSeaOn_40 : decode cX2_peopleAtSeaOn 40 = .ok (.iload_n 2, 1) := by decide +kernel
theorem dX2_peopleAtSeaOn_41 : decode cX2_peopleAtSeaOn 41 = .ok (.ireturn, 1) := by decide +kernel
theorem dX2_daysAtSeaOfAll_0 : decode cX2_daysAtSeaOfAll 0 = .ok (.lconst 0, 1) := by decide +kernel
theorem dX2_daysAtSeaOfAll_1 : decode cX2_daysAtSeaOfAll 1 = .ok (.lstore_n 1, 1) := by decide +kernel
theorem dX2_daysAtSeaOfAll_2 : decode cX2_daysAtSeaOfAll 2 = .ok (.iconst 0, 1) := by decide +kernel
theorem dX2_daysAtSeaOfAll_3 : decode cX2_daysAtSeaOfAll 3 = .ok (.istore_n 3, 1) := by decide +kernel
theorem dX2_daysAtSeaOfAll_4 : decode cX2_daysAtSeaOfAll 4 = .ok (.iload_n 3, 1) := by decide +kernel
theorem dX2_daysAtSeaOfAll_5 : decode cX2_daysAtSeaOfAll 5 = .ok (.bipush 20, 2) := by decide +kernel
theorem dX2_daysAtSeaOfAll_7 : decode cX2_daysAtSeaOfAll 7 = .ok (.if_icmp .ge 18, 3) := by decide +kernel
theorem dX2_daysAtSeaOfAll_10 : decode cX2_daysAtSeaOfAll 10 = .ok (.lload_n 1, 1) := by decide +kernel
theorem dX2_daysAtSeaOfAll_11 : decode cX2_daysAtSeaOfAll 11 = .ok (.aload_n 0, 1) := by decide +kernel
theorem dX2_daysAtSeaOfAll_12 : decode cX2_daysAtSeaOfAll 12 = .ok (.iload_n 3, 1) := by decide +kernel
theorem dX2_daysAtSeaOfAll_13 : decode cX2_daysAtSeaOfAll 13 = .ok (.invokevirtual 74, 3) := by decide +kernel
theorem dX2_daysAtSeaOfAll_16 : decode cX2_daysAtSeaOfAll 16 = .ok (.i2l, 1) := by decide +kernel
theorem dX2_daysAtSeaOfAll_17 : decode cX2_daysAtSeaOfAll 17 = .ok (.ladd, 1) := by decide +kernel
theorem dX2_daysAtSeaOfAll_18 : decode cX2_daysAtSeaOfAll 18 = .ok (.lstore_n 1, 1) := by decide +kernel
theorem dX2_daysAtSeaOfAll_19 : decode cX2_daysAtSeaOfAll 19 = .ok (.iinc 3 1, 3) := by decide +kernel
theorem dX2_daysAtSeaOfAll_22 : decode cX2_daysAtSeaOfAll 22 = .ok (.goto (-18), 3) := by decide +kernel
theorem dX2_daysAtSeaOfAll_25 : decode cX2_daysAtSeaOfAll 25 = .ok (.lload_n 1, 1) := by decide +kernel
theorem dX2_daysAtSeaOfAll_26 : decode cX2_daysAtSeaOfAll 26 = .ok (.lreturn, 1) := by decide +kernel
theorem dX3_init_0 : decode cX3_init 0 = .ok (.aload_n 0, 1) := by decide +kernel
theorem dX3_init_1 : decode cX3_init 1 = .ok (.invokespecial 3, 3) := by decide +kernel
theorem dX3_init_4 : decode cX3_init 4 = .ok (.aload_n 0, 1) := by decide +kernel
theorem dX3_init_5 : decode cX3_init 5 = .ok (.bipush 8, 2) := by decide +kernel
theorem dX3_init_7 : decode cX3_init 7 = .ok (.anewarray 9, 3) := by decide +kernel
theorem dX3_init_10 : decode cX3_init 10 = .ok (.putfield 11, 3) := by decide +kernel
theorem dX3_init_13 : decode cX3_init 13 = .ok (.iconst 0, 1) := by decide +kernel
theorem dX3_init_14 : decode cX3_init 14 = .ok (.istore_n 1, 1) := by decide +kernel
theorem dX3_init_15 : decode cX3_init 15 = .ok (.iload_n 1, 1) := by decide +kernel
theorem dX3_init_16 : decode cX3_init 16 = .ok (.aload_n 0, 1) := by decide +kernel
theorem dX3_init_17 : decode cX3_init 17 = .ok (.getfield 11, 3) := by decide +kernel
theorem dX3_init_20 : decode cX3_init 20 = .ok (.arraylength, 1) := by decide +kernel
theorem dX3_init_21 : decode cX3_init 21 = .ok (.if_icmp .ge 22, 3) := by decide +kernel
theorem dX3_init_24 : decode cX3_init 24 = .ok (.aload_n 0, 1) := by decide +kernel
theorem dX3_init_25 : decode cX3_init 25 = .ok (.getfield 11, 3) := by decide +kernel
theorem dX3_init_28 : decode cX3_init 28 = .ok (.iload_n 1, 1) := by decide +kernel
theorem dX3_init_29 : decode cX3_init 29 = .ok (.new 9, 3) := by decide +kernel
theorem dX3_init_32 : decode cX3_init 32 = .ok (.dup, 1) := by decide +kernel
theorem dX3_init_33 : decode cX3_init 33 = .ok (.invokespecial 17, 3) := by decide +kernel
theorem dX3_init_36 : decode cX3_init 36 = .ok (.aastore, 1) := by decide +kernel
theorem dX3_init_37 : decode cX3_init 37 = .ok (.iinc 1 1, 3) := by decide +kernel
theorem dX3_init_40 : decode cX3_init 40 = .ok (.goto (-25), 3) := by decide +kernel
theorem dX3_init_43 : decode cX3_init 43 = .ok (.return_, 1) := by decide +kernel
theorem dX3_steps_0 : decode cX3_steps 0 = .ok (.aload_n 0, 1) := by decide +kernel
theorem dX3_steps_1 : decode cX3_steps 1 = .ok (.getfield 18, 3) := by decide +kernel
theorem dX3_steps_4 : decode cX3_steps 4 = .ok (.ireturn, 1) := by decide +kernel
theorem dX3_forget_0 : decode cX3_forget 0 = .ok (.aload_n 0, 1) := by decide +kernel
theorem dX3_forget_1 : decode cX3_forget 1 = .ok (.iconst 0, 1) := by decide +kernel
theorem dX3_forget_2 : decode cX3_forget 2 = .ok (.putfield 18, 3) := by decide +kernel
theorem dX3_forget_5 : decode cX3_forget 5 = .ok (.return_, 1) := by decide +kernel
theorem dX3_remember_0 : decode cX3_remember 0 = .ok (.aload_n 0, 1) := by decide +kernel
theorem dX3_remember_1 : decode cX3_remember 1 = .ok (.getfield 22, 3) := by decide +kernel
theorem dX3_remember_4 : decode cX3_remember 4 = .ok (.aload_n 0, 1) := by decide +kernel
theorem dX3_remember_5 : decode cX3_remember 5 = .ok (.getfield 11, 3) := by decide +kernel
theorem dX3_remember_8 : decode cX3_remember 8 = .ok (.arraylength, 1) := by decide +kernel
theorem dX3_remember_9 : decode cX3_remember 9 = .ok (.invokestatic 25, 3) := by decide +kernel
theorem dX3_remember_12 : decode cX3_remember 12 = .ok (.ifCond .ne 4, 3) := by decide +kernel
theorem dX3_remember_15 : decode cX3_remember 15 = .ok (.return_, 1) := by decide +kernel
theorem dX3_remember_16 : decode cX3_remember 16 = .ok (.aload_n 0, 1) := by decide +kernel
theorem dX3_remember_17 : decode cX3_remember 17 = .ok (.getfield 11, 3) := by decide +kernel
theorem dX3_remember_20 : decode cX3_remember 20 = .ok (.aload_n 0, 1) := by decide +kernel
theorem dX3_remember_21 : decode cX3_remember 21 = .ok (.getfield 22, 3) := by decide +kernel
theorem dX3_remember_24 : decode cX3_remember 24 = .ok (.aaload, 1) := by decide +kernel
theorem dX3_remember_25 : decode cX3_remember 25 = .ok (.aload_n 1, 1) := by decide +kernel
theorem dX3_remember_26 : decode cX3_remember 26 = .ok (.invokevirtual 29, 3) := by decide +kernel
theorem dX3_remember_29 : decode cX3_remember 29 = .ok (.aload_n 0, 1) := by decide +kernel
theorem dX3_remember_30 : decode cX3_remember 30 = .ok (.aload_n 0, 1) := by decide +kernel
theorem dX3_remember_31 : decode cX3_remember 31 = .ok (.getfield 22, 3) := by decide +kernel
theorem dX3_remember_34 : decode cX3_remember 34 = .ok (.iconst 1, 1) := by decide +kernel
theorem dX3_remember_35 : decode cX3_remember 35 = .ok (.iadd, 1) := by decide +kernel
theorem dX3_remember_36 : decode cX3_remember 36 = .ok (.aload_n 0, 1) := by decide +kernel
theorem dX3_remember_37 : decode cX3_remember 37 = .ok (.getfield 11, 3) := by decide +kernel
theorem dX3_remember_40 : decode cX3_remember 40 = .ok (.arraylength, 1) := by decide +kernel
theorem dX3_remember_41 : decode cX3_remember 41 = .ok (.if_icmp .ge 12, 3) := by decide +kernel
theorem dX3_remember_44 : decode cX3_remember 44 = .ok (.aload_n 0, 1) := by decide +kernel
theorem dX3_remember_45 : decode cX3_remember 45 = .ok (.getfield 22, 3) := by decide +kernel
theorem dX3_remember_48 : decode cX3_remember 48 = .ok (.iconst 1, 1) := by decide +kernel
theorem dX3_remember_49 : decode cX3_remember 49 = .ok (.iadd, 1) := by decide +kernel
theorem dX3_remember_50 : decode cX3_remember 50 = .ok (.goto 4, 3) := by decide +kernel
theorem dX3_remember_53 : decode cX3_remember 53 = .ok (.iconst 0, 1) := by decide +kernel
theorem dX3_remember_54 : decode cX3_remember 54 = .ok (.putfield 22, 3) := by decide +kernel
theorem dX3_remember_57 : decode cX3_remember 57 = .ok (.aload_n 0, 1) := by decide +kernel
theorem dX3_remember_58 : decode cX3_remember 58 = .ok (.aload_n 0, 1) := by decide +kernel
theorem dX3_remember_59 : decode cX3_remember 59 = .ok (.getfield 18, 3) := by decide +kernel
theorem dX3_remember_62 : decode cX3_remember 62 = .ok (.iconst 1, 1) := by decide +kernel
theorem dX3_remember_63 : decode cX3_remember 63 = .ok (.iadd, 1) := by decide +kernel
theorem dX3_remember_64 : decode cX3_remember 64 = .ok (.aload_n 0, 1) := by decide +kernel
theorem dX3_remember_65 : decode cX3_remember 65 = .ok (.getfield 11, 3) := by decide +kernel
theorem dX3_remember_68 : decode cX3_remember 68 = .ok (.arraylength, 1) := by decide +kernel
theorem dX3_remember_69 : decode cX3_remember 69 = .ok (.invokestatic 33, 3) := by decide +kernel
theorem dX3_remember_72 : decode cX3_remember 72 = .ok (.putfield 18, 3) := by decide +kernel
theorem dX3_remember_75 : decode cX3_remember 75 = .ok (.return_, 1) := by decide +kernel
theorem dX3_bringBack_0 : decode cX3_bringBack 0 = .ok (.aload_n 0, 1) := by decide +kernel
theorem dX3_bringBack_1 : decode cX3_bringBack 1 = .ok (.getfield 22, 3) := by decide +kernel
theorem dX3_bringBack_4 : decode cX3_bringBack 4 = .ok (.ifCond .le 12, 3) := by decide +kernel
theorem dX3_bringBack_7 : decode cX3_bringBack 7 = .ok (.aload_n 0, 1) := by decide +kernel
theorem dX3_bringBack_8 : decode cX3_bringBack 8 = .ok (.getfield 22, 3) := by decide +kernel
theorem dX3_bringBack_11 : decode cX3_bringBack 11 = .ok (.iconst 1, 1) := by decide +kernel
theorem dX3_bringBack_12 : decode cX3_bringBack 12 = .ok (.isub, 1) := by decide +kernel
theorem dX3_bringBack_13 : decode cX3_bringBack 13 = .ok (.goto 10, 3) := by decide +kernel
theorem dX3_bringBack_16 : decode cX3_bringBack 16 = .ok (.aload_n 0, 1) := by decide +kernel
theorem dX3_bringBack_17 : decode cX3_bringBack 17 = .ok (.getfield 11, 3) := by decide +kernel
theorem dX3_bringBack_20 : decode cX3_bringBack 20 = .ok (.arraylength, 1) := by decide +kernel
theorem dX3_bringBack_21 : decode cX3_bringBack 21 = .ok (.iconst 1, 1) := by decide +kernel
theorem dX3_bringBack_22 : decode cX3_bringBack 22 = .ok (.isub, 1) := by decide +kernel
theorem dX3_bringBack_23 : decode cX3_bringBack 23 = .ok (.istore_n 2, 1) := by decide +kernel
theorem dX3_bringBack_24 : decode cX3_bringBack 24 = .ok (.aload_n 0, 1) := by decide +kernel
theorem dX3_bringBack_25 : decode cX3_bringBack 25 = .ok (.getfield 18, 3) := by decide +kernel
theorem dX3_bringBack_28 : decode cX3_bringBack 28 = .ok (.iconst 1, 1) := by decide +kernel
theorem dX3_bringBack_29 : decode cX3_bringBack 29 = .ok (.if_icmp .lt 15, 3) := by decide +kernel
theorem dX3_bringBack_32 : decode cX3_bringBack 32 = .ok (.iload_n 2, 1) := by decide +kernel
theorem dX3_bringBack_33 : decode cX3_bringBack 33 = .ok (.aload_n 0, 1) := by decide +kernel
theorem dX3_bringBack_34 : decode cX3_bringBack 34 = .ok (.getfield 11, 3) := by decide +kernel
theorem dX3_bringBack_37 : decode cX3_bringBack 37 = .ok (.arraylength, 1) := by decide +kernel
theorem dX3_bringBack_38 : decode cX3_bringBack 38 = .ok (.invokestatic 25, 3) := by decide +kernel
theorem dX3_bringBack_41 : decode cX3_bringBack 41 = .ok (.ifCond .ne 5, 3) := by decide +kernel
theorem dX3_bringBack_44 : decode cX3_bringBack 44 = .ok (.iconst 0, 1) := by decide +kernel
theorem dX3_bringBack_45 : decode cX3_bringBack 45 = .ok (.ireturn, 1) := by decide +kernel
theorem dX3_bringBack_46 : decode cX3_bringBack 46 = .ok (.aload_n 1, 1) := by decide +kernel
theorem dX3_bringBack_47 : decode cX3_bringBack 47 = .ok (.aload_n 0, 1) := by decide +kernel
theorem dX3_bringBack_48 : decode cX3_bringBack 48 = .ok (.getfield 11, 3) := by decide +kernel
theorem dX3_bringBack_51 : decode cX3_bringBack 51 = .ok (.iload_n 2, 1) := by decide +kernel
theorem dX3_bringBack_52 : decode cX3_bringBack 52 = .ok (.aaload, 1) := by decide +kernel
theorem dX3_bringBack_53 : decode cX3_bringBack 53 = .ok (.invokevirtual 29, 3) := by decide +kernel
theorem dX3_bringBack_56 : decode cX3_bringBack 56 = .ok (.aload_n 0, 1) := by decide +kernel
theorem dX3_bringBack_57 : decode cX3_bringBack 57 = .ok (.iload_n 2, 1) := by decide +kernel
theorem dX3_bringBack_58 : decode cX3_bringBack 58 = .ok (.putfield 22, 3) := by decide +kernel
theorem dX3_bringBack_61 : decode cX3_bringBack 61 = .ok (.aload_n 0, 1) := by decide +kernel
theorem dX3_bringBack_62 : decode cX3_bringBack 62 = .ok (.dup, 1) := by decide +kernel
theorem dX3_bringBack_63 : decode cX3_bringBack 63 = .ok (.getfield 18, 3) := by decide +kernel
theorem dX3_bringBack_66 : decode cX3_bringBack 66 = .ok (.iconst 1, 1) := by decide +kernel
theorem dX3_bringBack_67 : decode cX3_bringBack 67 = .ok (.isub, 1) := by decide +kernel
theorem dX3_bringBack_68 : decode cX3_bringBack 68 = .ok (.putfield 18, 3) := by decide +kernel
theorem dX3_bringBack_71 : decode cX3_bringBack 71 = .ok (.iconst 1, 1) := by decide +kernel
theorem dX3_bringBack_72 : decode cX3_bringBack 72 = .ok (.ireturn, 1) := by decide +kernel
theorem dX4_init_0 : decode cX4_init 0 = .ok (.aload_n 0, 1) := by decide +kernel
theorem dX4_init_1 : decode cX4_init 1 = .ok (.invokespecial 3, 3) := by decide +kernel
theorem dX4_init_4 : decode cX4_init 4 = .ok (.aload_n 0, 1) := by decide +kernel
theorem dX4_init_5 : decode cX4_init 5 = .ok (.new 9, 3) := by decide +kernel
theorem dX4_init_8 : decode cX4_init 8 = .ok (.dup, 1) := by decide +kernel
theorem dX4_init_9 : decode cX4_init 9 = .ok (.sipush 800, 3) := by decide +kernel
theorem dX4_init_12 : decode cX4_init 12 = .ok (.invokespecial 11, 3) := by decide +kernel
theorem dX4_init_15 : decode cX4_init 15 = .ok (.putfield 14, 3) := by decide +kernel
theorem dX4_init_18 : decode cX4_init 18 = .ok (.aload_n 0, 1) := by decide +kernel
theorem dX4_init_19 : decode cX4_init 19 = .ok (.new 20, 3) := by decide +kernel
theorem dX4_init_22 : decode cX4_init 22 = .ok (.dup, 1) := by decide +kernel
theorem dX4_init_23 : decode cX4_init 23 = .ok (.invokespecial 22, 3) := by decide +kernel
theorem dX4_init_26 : decode cX4_init 26 = .ok (.putfield 23, 3) := by decide +kernel
theorem dX4_init_29 : decode cX4_init 29 = .ok (.return_, 1) := by decide +kernel
theorem dX4_readTape_0 : decode cX4_readTape 0 = .ok (.aload_n 0, 1) := by decide +kernel
theorem dX4_readTape_1 : decode cX4_readTape 1 = .ok (.getfield 23, 3) := by decide +kernel
theorem dX4_readTape_4 : decode cX4_readTape 4 = .ok (.invokevirtual 27, 3) := by decide +kernel
theorem dX4_readTape_7 : decode cX4_readTape 7 = .ok (.aload_n 0, 1) := by decide +kernel
theorem dX4_readTape_8 : decode cX4_readTape 8 = .ok (.iconst 0, 1) := by decide +kernel
theorem dX4_readTape_9 : decode cX4_readTape 9 = .ok (.putfield 30, 3) := by decide +kernel
theorem dX4_readTape_12 : decode cX4_readTape 12 = .ok (.aload_n 0, 1) := by decide +kernel
theorem dX4_readTape_13 : decode cX4_readTape 13 = .ok (.invokevirtual 34, 3) := by decide +kernel
theorem dX4_readTape_16 : decode cX4_readTape 16 = .ok (.aload_n 0, 1) := by decide +kernel
theorem dX4_readTape_17 : decode cX4_readTape 17 = .ok (.invokevirtual 37, 3) := by decide +kernel
theorem dX4_readTape_20 : decode cX4_readTape 20 = .ok (.ifCond .eq 22, 3) := by decide +kernel
theorem dX4_readTape_23 : decode cX4_readTape 23 = .ok (.aload_n 0, 1) := by decide +kernel
theorem dX4_readTape_24 : decode cX4_readTape 24 = .ok (.invokevirtual 41, 3) := by decide +kernel
theorem dX4_readTape_27 : decode cX4_readTape 27 = .ok (.ifCond .eq 15, 3) := by decide +kernel
theorem dX4_readTape_30 : decode cX4_readTape 30 = .ok (.aload_n 0, 1) := by decide +kernel
theorem dX4_readTape_31 : decode cX4_readTape 31 = .ok (.invokevirtual 44, 3) := by decide +kernel
theorem dX4_readTape_34 : decode cX4_readTape 34 = .ok (.ifCond .eq 8, 3) := by decide +kernel
theorem dX4_readTape_37 : decode cX4_readTape 37 = .ok (.bipush (-2), 2) := by decide +kernel
theorem dX4_readTape_39 : decode cX4_readTape 39 = .ok (.goto 7, 3) := by decide +kernel
theorem dX4_readTape_42 : decode cX4_readTape 42 = .ok (.aload_n 0, 1) := by decide +kernel
theorem dX4_readTape_43 : decode cX4_readTape 43 = .ok (.getfield 47, 3) := by decide +kernel
theorem dX4_readTape_46 : decode cX4_readTape 46 = .ok (.ireturn, 1) := by decide +kernel
theorem dX4_readNumbers_0 : decode cX4_readNumbers 0 = .ok (.aload_n 0, 1) := by decide +kernel
theorem dX4_readNumbers_1 : decode cX4_readNumbers 1 = .ok (.ldc 50, 2) := by decide +kernel
theorem dX4_readNumbers_3 : decode cX4_readNumbers 3 = .ok (.invokevirtual 52, 3) := by decide +kernel
theorem dX4_readNumbers_6 : decode cX4_readNumbers 6 = .ok (.ifCond .eq 144, 3) := by decide +kernel
theorem dX4_readNumbers_9 : decode cX4_readNumbers 9 = .ok (.aload_n 0, 1) := by decide +kernel
theorem dX4_readNumbers_10 : decode cX4_readNumbers 10 = .ok (.iconst 0, 1) := by decide +kernel
theorem dX4_readNumbers_11 : decode cX4_readNumbers 11 = .ok (.iconst 1, 1) := by decide +kernel
theorem dX4_readNumbers_12 : decode cX4_readNumbers 12 = .ok (.bipush 100, 2) := by decide +kernel
theorem dX4_readNumbers_14 : decode cX4_readNumbers 14 = .ok (.invokevirtual 56, 3) := by decide +kernel
theorem dX4_readNumbers_17 : decode cX4_readNumbers 17 = .ok (.ifCond .eq 133, 3) := by decide +kernel
theorem dX4_readNumbers_20 : decode cX4_readNumbers 20 = .ok (.aload_n 0, 1) := by decide +kernel
theorem dX4_readNumbers_21 : decode cX4_readNumbers 21 = .ok (.ldc 60, 2) := by decide +kernel
theorem dX4_readNumbers_23 : decode cX4_readNumbers 23 = .ok (.invokevirtual 52, 3) := by decide +kernel
theorem dX4_readNumbers_26 : decode cX4_readNumbers 26 = .ok (.ifCond .eq 124, 3) := by decide +kernel
theorem dX4_readNumbers_29 : decode cX4_readNumbers 29 = .ok (.aload_n 0, 1) := by decide +kernel
theorem dX4_readNumbers_30 : decode cX4_readNumbers 30 = .ok (.invokevirtual 62, 3) := by decide +kernel
theorem dX4_readNumbers_33 : decode cX4_readNumbers 33 = .ok (.ifCond .eq 117, 3) := by decide +kernel
theorem dX4_readNumbers_36 : decode cX4_readNumbers 36 = .ok (.aload_n 0, 1) := by decide +kernel
theorem dX4_readNumbers_37 : decode cX4_readNumbers 37 = .ok (.ldc 65, 2) := by decide +kernel
theorem dX4_readNumbers_39 : decode cX4_readNumbers 39 = .ok (.invokevirtual 52, 3) := by decide +kernel
theorem dX4_readNumbers_42 : decode cX4_readNumbers 42 = .ok (.ifCond .eq 108, 3) := by decide +kernel
theorem dX4_readNumbers_45 : decode cX4_readNumbers 45 = .ok (.aload_n 0, 1) := by decide +kernel
theorem dX4_readNumbers_46 : decode cX4_readNumbers 46 = .ok (.iconst 5, 1) := by decide +kernel
theorem dX4_readNumbers_47 : decode cX4_readNumbers 47 = .ok (.iconst 0, 1) := by decide +kernel
theorem dX4_readNumbers_48 : decode cX4_readNumbers 48 = .ok (.bipush 9, 2) := by decide +kernel
theorem dX4_readNumbers_50 : decode cX4_readNumbers 50 = .ok (.invokevirtual 56, 3) := by decide +kernel
theorem dX4_readNumbers_53 : decode cX4_readNumbers 53 = .ok (.ifCond .eq 97, 3) := by decide +kernel
theorem dX4_readNumbers_56 : decode cX4_readNumbers 56 = .ok (.aload_n 0, 1) := by decide +kernel
theorem dX4_readNumbers_57 : decode cX4_readNumbers 57 = .ok (.ldc 67, 2) := by decide +kernel
theorem dX4_readNumbers_59 : decode cX4_readNumbers 59 = .ok (.invokevirtual 52, 3) := by decide +kernel
theorem dX4_readNumbers_62 : decode cX4_readNumbers 62 = .ok (.ifCond .eq 88, 3) := by decide +kernel
theorem dX4_readNumbers_65 : decode cX4_readNumbers 65 = .ok (.aload_n 0, 1) := by decide +kernel
theorem dX4_readNumbers_66 : decode cX4_readNumbers 66 = .ok (.bipush 6, 2) := by decide +kernel
theorem dX4_readNumbers_68 : decode cX4_readNumbers 68 = .ok (.iconst 1, 1) := by decide +kernel
theorem dX4_readNumbers_69 : decode cX4_readNumbers 69 = .ok (.bipush 20, 2) := by decide +kernel
theorem dX4_readNumbers_71 : decode cX4_readNumbers 71 = .ok (.invokevirtual 56, 3) := by decide +kernel
theorem dX4_readNumbers_74 : decode cX4_readNumbers 74 = .ok (.ifCond .eq 76, 3) := by decide +kernel
theorem dX4_readNumbers_77 : decode cX4_readNumbers 77 = .ok (.aload_n 0, 1) := by decide +kernel
theorem dX4_readNumbers_78 : decode cX4_readNumbers 78 = .ok (.ldc 69, 2) := by decide +kernel
theorem dX4_readNumbers_80 : decode cX4_readNumbers 80 = .ok (.invokevirtual 52, 3) := by decide +kernel
theorem dX4_readNumbers_83 : decode cX4_readNumbers 83 = .ok (.ifCond .eq 67, 3) := by decide +kernel
theorem dX4_readNumbers_86 : decode cX4_readNumbers 86 = .ok (.aload_n 0, 1) := by decide +kernel
theorem dX4_readNumbers_87 : decode cX4_readNumbers 87 = .ok (.bipush 7, 2) := by decide +kernel
theorem dX4_readNumbers_89 : decode cX4_readNumbers 89 = .ok (.iconst 0, 1) := by decide +kernel
theorem dX4_readNumbers_90 : decode cX4_readNumbers 90 = .ok (.bipush 9, 2) := by decide +kernel
theorem dX4_readNumbers_92 : decode cX4_readNumbers 92 = .ok (.invokevirtual 56, 3) := by decide +kernel
theorem dX4_readNumbers_95 : decode cX4_readNumbers 95 = .ok (.ifCond .eq 55, 3) := by decide +kernel
theorem dX4_readNumbers_98 : decode cX4_readNumbers 98 = .ok (.aload_n 0, 1) := by decide +kernel
theorem dX4_readNumbers_99 : decode cX4_readNumbers 99 = .ok (.ldc 71, 2) := by decide +kernel
theorem dX4_readNumbers_101 : decode cX4_readNumbers 101 = .ok (.invokevirtual 52, 3) := by decide +kernel
theorem dX4_readNumbers_104 : decode cX4_readNumbers 104 = .ok (.ifCond .eq 46, 3) := by decide +kernel
theorem dX4_readNumbers_107 : decode cX4_readNumbers 107 = .ok (.aload_n 0, 1) := by decide +kernel
theorem dX4_readNumbers_108 : decode cX4_readNumbers 108 = .ok (.bipush 8, 2) := by decide +kernel
theorem dX4_readNumbers_110 : decode cX4_readNumbers 110 = .ok (.iconst 0, 1) := by decide +kernel
theorem dX4_readNumbers_111 : decode cX4_readNumbers 111 = .ok (.bipush 30, 2) := by decide +kernel
theorem dX4_readNumbers_113 : decode cX4_readNumbers 113 = .ok (.invokevirtual 56, 3) := by decide +kernel
theorem dX4_readNumbers_116 : decode cX4_readNumbers 116 = .ok (.ifCond .eq 34, 3) := by decide +kernel
theorem dX4_readNumbers_119 : decode cX4_readNumbers 119 = .ok (.aload_n 0, 1) := by decide +kernel
theorem dX4_readNumbers_120 : decode cX4_readNumbers 120 = .ok (.ldc 73, 2) := by decide +kernel
theorem dX4_readNumbers_122 : decode cX4_readNumbers 122 = .ok (.invokevirtual 52, 3) := by decide +kernel
theorem dX4_readNumbers_125 : decode cX4_readNumbers 125 = .ok (.ifCond .eq 25, 3) := by decide +kernel
theorem dX4_readNumbers_128 : decode cX4_readNumbers 128 = .ok (.aload_n 0, 1) := by decide +kernel
theorem dX4_readNumbers_129 : decode cX4_readNumbers 129 = .ok (.bipush 9, 2) := by decide +kernel
theorem dX4_readNumbers_131 : decode cX4_readNumbers 131 = .ok (.iconst 0, 1) := by decide +kernel
theorem dX4_readNumbers_132 : decode cX4_readNumbers 132 = .ok (.iconst 3, 1) := by decide +kernel
theorem dX4_readNumbers_133 : decode cX4_readNumbers 133 = .ok (.invokevirtual 56, 3) := by decide +kernel
theorem dX4_readNumbers_136 : decode cX4_readNumbers 136 = .ok (.ifCond .eq 14, 3) := by decide +kernel
theorem dX4_readNumbers_139 : decode cX4_readNumbers 139 = .ok (.aload_n 0, 1) := by decide +kernel
theorem dX4_readNumbers_140 : decode cX4_readNumbers 140 = .ok (.invokevirtual 75, 3) := by decide +kernel
theorem dX4_readNumbers_143 : decode cX4_readNumbers 143 = .ok (.ifCond .eq 7, 3) := by decide +kernel
theorem dX4_readNumbers_146 : decode cX4_readNumbers 146 = .ok (.iconst 1, 1) := by decide +kernel
theorem dX4_readNumbers_147 : decode cX4_readNumbers 147 = .ok (.goto 4, 3) := by decide +kernel
theorem dX4_readNumbers_150 : decode cX4_readNumbers 150 = .ok (.iconst 0, 1) := by decide +kernel
theorem dX4_readNumbers_151 : decode cX4_readNumbers 151 = .ok (.ireturn, 1) := by decide +kernel
theorem dX4_readShares_0 : decode cX4_readShares 0 = .ok (.iconst 0, 1) := by decide +kernel
theorem dX4_readShares_1 : decode cX4_readShares 1 = .ok (.istore_n 1, 1) := by decide +kernel
theorem dX4_readShares_2 : decode cX4_readShares 2 = .ok (.iload_n 1, 1) := by decide +kernel
theorem dX4_readShares_3 : decode cX4_readShares 3 = .ok (.iconst 4, 1) := by decide +kernel
theorem dX4_readShares_4 : decode cX4_readShares 4 = .ok (.if_icmp .ge 24, 3) := by decide +kernel
theorem dX4_readShares_7 : decode cX4_readShares 7 = .ok (.aload_n 0, 1) := by decide +kernel
theorem dX4_readShares_8 : decode cX4_readShares 8 = .ok (.iconst 1, 1) := by decide +kernel
theorem dX4_readShares_9 : decode cX4_readShares 9 = .ok (.iload_n 1, 1) := by decide +kernel
theorem dX4_readShares_10 : decode cX4_readShares 10 = .ok (.iadd, 1) := by decide +kernel
theorem dX4_readShares_11 : decode cX4_readShares 11 = .ok (.iconst 0, 1) := by decide +kernel
theorem dX4_readShares_12 : decode cX4_readShares 12 = .ok (.bipush 100, 2) := by decide +kernel
theorem dX4_readShares_14 : decode cX4_readShares 14 = .ok (.invokevirtual 56, 3) := by decide +kernel
theorem dX4_readShares_17 : decode cX4_readShares 17 = .ok (.ifCond .ne 5, 3) := by decide +kernel
theorem dX4_readShares_20 : decode cX4_readShares 20 = .ok (.iconst 0, 1) := by decide +kernel
theorem dX4_readShares_21 : decode cX4_readShares 21 = .ok (.ireturn, 1) := by decide +kernel
theorem dX4_readShares_22 : decode cX4_readShares 22 = .ok (.iinc 1 1, 3) := by decide +kernel
theorem dX4_readShares_25 : decode cX4_readShares 25 = .ok (.goto (-23), 3) := by decide +kernel
theorem dX4_readShares_28 : decode cX4_readShares 28 = .ok (.iconst 1, 1) := by decide +kernel
theorem dX4_readShares_29 : decode cX4_readShares 29 = .ok (.ireturn, 1) := by decide +kernel
theorem dX4_readBoats_0 : decode cX4_readBoats 0 = .ok (.iconst 0, 1) := by decide +kernel
theorem dX4_readBoats_1 : decode cX4_readBoats 1 = .ok (.istore_n 1, 1) := by decide +kernel
theorem dX4_readBoats_2 : decode cX4_readBoats 2 = .ok (.iload_n 1, 1) := by decide +kernel
theorem dX4_readBoats_3 : decode cX4_readBoats 3 = .ok (.bipush 6, 2) := by decide +kernel
theorem dX4_readBoats_5 : decode cX4_readBoats 5 = .ok (.if_icmp .ge 71, 3) := by decide +kernel
theorem dX4_readBoats_8 : decode cX4_readBoats 8 = .ok (.aload_n 0, 1) := by decide +kernel
theorem dX4_readBoats_9 : decode cX4_readBoats 9 = .ok (.ldc 78, 2) := by decide +kernel
theorem dX4_readBoats_11 : decode cX4_readBoats 11 = .ok (.invokevirtual 80, 3) := by decide +kernel
theorem dX4_readBoats_14 : decode cX4_readBoats 14 = .ok (.ifCond .eq 62, 3) := by decide +kernel
theorem dX4_readBoats_17 : decode cX4_readBoats 17 = .ok (.aload_n 0, 1) := by decide +kernel
theorem dX4_readBoats_18 : decode cX4_readBoats 18 = .ok (.invokevirtual 34, 3) := by decide +kernel
theorem dX4_readBoats_21 : decode cX4_readBoats 21 = .ok (.aload_n 0, 1) := by decide +kernel
theorem dX4_readBoats_22 : decode cX4_readBoats 22 = .ok (.invokevirtual 83, 3) := by decide +kernel
theorem dX4_readBoats_25 : decode cX4_readBoats 25 = .ok (.ifCond .eq 19, 3) := by decide +kernel
theorem dX4_readBoats_28 : decode cX4_readBoats 28 = .ok (.aload_n 0, 1) := by decide +kernel
theorem dX4_readBoats_29 : decode cX4_readBoats 29 = .ok (.getfield 23, 3) := by decide +kernel
theorem dX4_readBoats_32 : decode cX4_readBoats 32 = .ok (.aload_n 0, 1) := by decide +kernel
theorem dX4_readBoats_33 : decode cX4_readBoats 33 = .ok (.invokevirtual 86, 3) := by decide +kernel
theorem dX4_readBoats_36 : decode cX4_readBoats 36 = .ok (.invokevirtual 90, 3) := by decide +kernel
theorem dX4_readBoats_39 : decode cX4_readBoats 39 = .ok (.bipush (-2), 2) := by decide +kernel
theorem dX4_readBoats_41 : decode cX4_readBoats 41 = .ok (.if_icmp .eq 5, 3) := by decide +kernel
theorem dX4_readBoats_44 : decode cX4_readBoats 44 = .ok (.iconst 0, 1) := by decide +kernel
theorem dX4_readBoats_45 : decode cX4_readBoats 45 = .ok (.ireturn, 1) := by decide +kernel
theorem dX4_readBoats_46 : decode cX4_readBoats 46 = .ok (.aload_n 0, 1) := by decide +kernel
theorem dX4_readBoats_47 : decode cX4_readBoats 47 = .ok (.getfield 23, 3) := by decide +kernel
theorem dX4_readBoats_50 : decode cX4_readBoats 50 = .ok (.aload_n 0, 1) := by decide +kernel
theorem dX4_readBoats_51 : decode cX4_readBoats 51 = .ok (.invokevirtual 86, 3) := by decide +kernel
theorem dX4_readBoats_54 : decode cX4_readBoats 54 = .ok (.invokevirtual 94, 3) := by decide +kernel
theorem dX4_readBoats_57 : decode cX4_readBoats 57 = .ok (.aload_n 0, 1) := by decide +kernel
theorem dX4_readBoats_58 : decode cX4_readBoats 58 = .ok (.invokevirtual 34, 3) := by decide +kernel
theorem dX4_readBoats_61 : decode cX4_readBoats 61 = .ok (.aload_n 0, 1) := by decide +kernel
theorem dX4_readBoats_62 : decode cX4_readBoats 62 = .ok (.invokevirtual 75, 3) := by decide +kernel
theorem dX4_readBoats_65 : decode cX4_readBoats 65 = .ok (.ifCond .ne 5, 3) := by decide +kernel
theorem dX4_readBoats_68 : decode cX4_readBoats 68 = .ok (.iconst 0, 1) := by decide +kernel
theorem dX4_readBoats_69 : decode cX4_readBoats 69 = .ok (.ireturn, 1) := by decide +kernel
theorem dX4_readBoats_70 : decode cX4_readBoats 70 = .ok (.iinc 1 1, 3) := by decide +kernel
theorem dX4_readBoats_73 : decode cX4_readBoats 73 = .ok (.goto (-71), 3) := by decide +kernel
theorem dX4_readBoats_76 : decode cX4_readBoats 76 = .ok (.aload_n 0, 1) := by decide +kernel
theorem dX4_readBoats_77 : decode cX4_readBoats 77 = .ok (.ldc 78, 2) := by decide +kernel
theorem dX4_readBoats_79 : decode cX4_readBoats 79 = .ok (.invokevirtual 80, 3) := by decide +kernel
theorem dX4_readBoats_82 : decode cX4_readBoats 82 = .ok (.ifCond .ne 7, 3) := by decide +kernel
theorem dX4_readBoats_85 : decode cX4_readBoats 85 = .ok (.iconst 1, 1) := by decide +kernel
theorem dX4_readBoats_86 : decode cX4_readBoats 86 = .ok (.goto 4, 3) := by decide +kernel
theorem dX4_readBoats_89 : decode cX4_readBoats 89 = .ok (.iconst 0, 1) := by decide +kernel
theorem dX4_readBoats_90 : decode cX4_readBoats 90 = .ok (.ireturn, 1) := by decide +kernel
theorem dX4_readPeople_0 : decode cX4_readPeople 0 = .ok (.iconst 0, 1) := by decide +kernel
theorem dX4_readPeople_1 : decode cX4_readPeople 1 = .ok (.istore_n 1, 1) := by decide +kernel
theorem dX4_readPeople_2 : decode cX4_readPeople 2 = .ok (.iload_n 1, 1) := by decide +kernel
theorem dX4_readPeople_3 : decode cX4_readPeople 3 = .ok (.bipush 20, 2) := by decide +kernel
theorem dX4_readPeople_5 : decode cX4_readPeople 5 = .ok (.if_icmp .ge 41, 3) := by decide +kernel
theorem dX4_readPeople_8 : decode cX4_readPeople 8 = .ok (.iload_n 1, 1) := by decide +kernel
theorem dX4_readPeople_9 : decode cX4_readPeople 9 = .ok (.iconst 2, 1) := by decide +kernel
theorem dX4_readPeople_10 : decode cX4_readPeople 10 = .ok (.if_icmp .lt 12, 3) := by decide +kernel
theorem dX4_readPeople_13 : decode cX4_readPeople 13 = .ok (.aload_n 0, 1) := by decide +kernel
theorem dX4_readPeople_14 : decode cX4_readPeople 14 = .ok (.getfield 97, 3) := by decide +kernel
theorem dX4_readPeople_17 : decode cX4_readPeople 17 = .ok (.ifCond .ne 5, 3) := by decide +kernel
theorem dX4_readPeople_20 : decode cX4_readPeople 20 = .ok (.iconst 1, 1) := by decide +kernel
theorem dX4_readPeople_21 : decode cX4_readPeople 21 = .ok (.ireturn, 1) := by decide +kernel
theorem dX4_readPeople_22 : decode cX4_readPeople 22 = .ok (.aload_n 0, 1) := by decide +kernel
theorem dX4_readPeople_23 : decode cX4_readPeople 23 = .ok (.ldc 100, 2) := by decide +kernel
theorem dX4_readPeople_25 : decode cX4_readPeople 25 = .ok (.invokevirtual 52, 3) := by decide +kernel
theorem dX4_readPeople_28 : decode cX4_readPeople 28 = .ok (.ifCond .eq 10, 3) := by decide +kernel
theorem dX4_readPeople_31 : decode cX4_readPeople 31 = .ok (.aload_n 0, 1) := by decide +kernel
theorem dX4_readPeople_32 : decode cX4_readPeople 32 = .ok (.invokevirtual 102, 3) := by decide +kernel
theorem dX4_readPeople_35 : decode cX4_readPeople 35 = .ok (.ifCond .ne 5, 3) := by decide +kernel
theorem dX4_readPeople_38 : decode cX4_readPeople 38 = .ok (.iconst 0, 1) := by decide +kernel
theorem dX4_readPeople_39 : decode cX4_readPeople 39 = .ok (.ireturn, 1) := by decide +kernel
theorem dX4_readPeople_40 : decode cX4_readPeople 40 = .ok (.iinc 1 1, 3) := by decide +kernel
theorem dX4_readPeople_43 : decode cX4_readPeople 43 = .ok (.goto (-41), 3) := by decide +kernel
theorem dX4_readPeople_46 : decode cX4_readPeople 46 = .ok (.aload_n 0, 1) := by decide +kernel
theorem dX4_readPeople_47 : decode cX4_readPeople 47 = .ok (.getfield 97, 3) := by decide +kernel
theorem dX4_readPeople_50 : decode cX4_readPeople 50 = .ok (.ifCond .ne 7, 3) := by decide +kernel
theorem dX4_readPeople_53 : decode cX4_readPeople 53 = .ok (.iconst 1, 1) := by decide +kernel
theorem dX4_readPeople_54 : decode cX4_readPeople 54 = .ok (.goto 4, 3) := by decide +kernel
theorem dX4_readPeople_57 : decode cX4_readPeople 57 = .ok (.iconst 0, 1) := by decide +kernel
theorem dX4_readPeople_58 : decode cX4_readPeople 58 = .ok (.ireturn, 1) := by decide +kernel
theorem dX4_readPerson_0 : decode cX4_readPerson 0 = .ok (.aload_n 0, 1) := by decide +kernel
theorem dX4_readPerson_1 : decode cX4_readPerson 1 = .ok (.invokevirtual 83, 3) := by decide +kernel
theorem dX4_readPerson_4 : decode cX4_readPerson 4 = .ok (.ifCond .eq 19, 3) := by decide +kernel
theorem dX4_readPerson_7 : decode cX4_readPerson 7 = .ok (.aload_n 0, 1) := by decide +kernel
theorem dX4_readPerson_8 : decode cX4_readPerson 8 = .ok (.getfield 23, 3) := by decide +kernel
theorem dX4_readPerson_11 : decode cX4_readPerson 11 = .ok (.aload_n 0, 1) := by decide +kernel
theorem dX4_readPerson_12 : decode cX4_readPerson 12 = .ok (.invokevirtual 86, 3) := by decide +kernel
theorem dX4_readPerson_15 : decode cX4_readPerson 15 = .ok (.invokevirtual 105, 3) := by decide +kernel
theorem dX4_readPerson_18 : decode cX4_readPerson 18 = .ok (.bipush (-2), 2) := by decide +kernel
theorem dX4_readPerson_20 : decode cX4_readPerson 20 = .ok (.if_icmp .eq 5, 3) := by decide +kernel
theorem dX4_readPerson_23 : decode cX4_readPerson 23 = .ok (.iconst 0, 1) := by decide +kernel
theorem dX4_readPerson_24 : decode cX4_readPerson 24 = .ok (.ireturn, 1) := by decide +kernel
theorem dX4_readPerson_25 : decode cX4_readPerson 25 = .ok (.aload_n 0, 1) := by decide +kernel
theorem dX4_readPerson_26 : decode cX4_readPerson 26 = .ok (.invokevirtual 86, 3) := by decide +kernel
theorem dX4_readPerson_29 : decode cX4_readPerson 29 = .ok (.istore_n 1, 1) := by decide +kernel
theorem dX4_readPerson_30 : decode cX4_readPerson 30 = .ok (.bipush (-2), 2) := by decide +kernel
theorem dX4_readPerson_32 : decode cX4_readPerson 32 = .ok (.istore_n 2, 1) := by decide +kernel
theorem dX4_readPerson_33 : decode cX4_readPerson 33 = .ok (.aload_n 0, 1) := by decide +kernel
theorem dX4_readPerson_34 : decode cX4_readPerson 34 = .ok (.invokevirtual 34, 3) := by decide +kernel
theorem dX4_readPerson_37 : decode cX4_readPerson 37 = .ok (.aload_n 0, 1) := by decide +kernel
theorem dX4_readPerson_38 : decode cX4_readPerson 38 = .ok (.ldc 108, 2) := by decide +kernel
theorem dX4_readPerson_40 : decode cX4_readPerson 40 = .ok (.invokevirtual 80, 3) := by decide +kernel
theorem dX4_readPerson_43 : decode cX4_readPerson 43 = .ok (.ifCond .eq 38, 3) := by decide +kernel
theorem dX4_readPerson_46 : decode cX4_readPerson 46 = .ok (.aload_n 0, 1) := by decide +kernel
theorem dX4_readPerson_47 : decode cX4_readPerson 47 = .ok (.invokevirtual 34, 3) := by decide +kernel
theorem dX4_readPerson_50 : decode cX4_readPerson 50 = .ok (.aload_n 0, 1) := by decide +kernel
theorem dX4_readPerson_51 : decode cX4_readPerson 51 = .ok (.invokevirtual 83, 3) := by decide +kernel
theorem dX4_readPerson_54 : decode cX4_readPerson 54 = .ok (.ifCond .eq 15, 3) := by decide +kernel
theorem dX4_readPerson_57 : decode cX4_readPerson 57 = .ok (.aload_n 0, 1) := by decide +kernel
theorem dX4_readPerson_58 : decode cX4_readPerson 58 = .ok (.getfield 23, 3) := by decide +kernel
theorem dX4_readPerson_61 : decode cX4_readPerson 61 = .ok (.aload_n 0, 1) := by decide +kernel
theorem dX4_readPerson_62 : decode cX4_readPerson 62 = .ok (.invokevirtual 86, 3) := by decide +kernel
theorem dX4_readPerson_65 : decode cX4_readPerson 65 = .ok (.invokevirtual 90, 3) := by decide +kernel
theorem dX4_readPerson_68 : decode cX4_readPerson 68 = .ok (.istore_n 2, 1) := by decide +kernel
theorem dX4_readPerson_69 : decode cX4_readPerson 69 = .ok (.iload_n 2, 1) := by decide +kernel
theorem dX4_readPerson_70 : decode cX4_readPerson 70 = .ok (.bipush (-2), 2) := by decide +kernel
theorem dX4_readPerson_72 : decode cX4_readPerson 72 = .ok (.if_icmp .ne 5, 3) := by decide +kernel
theorem dX4_readPerson_75 : decode cX4_readPerson 75 = .ok (.iconst 0, 1) := by decide +kernel
theorem dX4_readPerson_76 : decode cX4_readPerson 76 = .ok (.ireturn, 1) := by decide +kernel
theorem dX4_readPerson_77 : decode cX4_readPerson 77 = .ok (.aload_n 0, 1) := by decide +kernel
theorem dX4_readPerson_78 : decode cX4_readPerson 78 = .ok (.invokevirtual 34, 3) := by decide +kernel
theorem dX4_readPerson_81 : decode cX4_readPerson 81 = .ok (.aload_n 0, 1) := by decide +kernel
theorem dX4_readPerson_82 : decode cX4_readPerson 82 = .ok (.getfield 23, 3) := by decide +kernel
theorem dX4_readPerson_85 : decode cX4_readPerson 85 = .ok (.iload_n 1, 1) := by decide +kernel
theorem dX4_readPerson_86 : decode cX4_readPerson 86 = .ok (.iload_n 2, 1) := by decide +kernel
theorem dX4_readPerson_87 : decode cX4_readPerson 87 = .ok (.invokevirtual 110, 3) := by decide +kernel
theorem dX4_readPerson_90 : decode cX4_readPerson 90 = .ok (.aload_n 0, 1) := by decide +kernel
theorem dX4_readPerson_91 : decode cX4_readPerson 91 = .ok (.invokevirtual 75, 3) := by decide +kernel
theorem dX4_readPerson_94 : decode cX4_readPerson 94 = .ok (.ireturn, 1) := by decide +kernel
theorem dX4_readNumber_0 : decode cX4_readNumber 0 = .ok (.aload_n 0, 1) := by decide +kernel
theorem dX4_readNumber_1 : decode cX4_readNumber 1 = .ok (.getfield 97, 3) := by decide +kernel
theorem dX4_readNumber_4 : decode cX4_readNumber 4 = .ok (.iconst 2, 1) := by decide +kernel
theorem dX4_readNumber_5 : decode cX4_readNumber 5 = .ok (.if_icmp .eq 5, 3) := by decide +kernel
theorem dX4_readNumber_8 : decode cX4_readNumber 8 = .ok (.iconst 0, 1) := by decide +kernel
theorem dX4_readNumber_9 : decode cX4_readNumber 9 = .ok (.ireturn, 1) := by decide +kernel
theorem dX4_readNumber_10 : decode cX4_readNumber 10 = .ok (.aload_n 0, 1) := by decide +kernel
theorem dX4_readNumber_11 : decode cX4_readNumber 11 = .ok (.invokevirtual 114, 3) := by decide +kernel
theorem dX4_readNumber_14 : decode cX4_readNumber 14 = .ok (.istore 4, 2) := by decide +kernel
theorem dX4_readNumber_16 : decode cX4_readNumber 16 = .ok (.iload 4, 2) := by decide +kernel
theorem dX4_readNumber_18 : decode cX4_readNumber 18 = .ok (.iload_n 2, 1) := by decide +kernel
theorem dX4_readNumber_19 : decode cX4_readNumber 19 = .ok (.if_icmp .lt 9, 3) := by decide +kernel
theorem dX4_readNumber_22 : decode cX4_readNumber 22 = .ok (.iload 4, 2) := by decide +kernel
theorem dX4_readNumber_24 : decode cX4_readNumber 24 = .ok (.iload_n 3, 1) := by decide +kernel
theorem dX4_readNumber_25 : decode cX4_readNumber 25 = .ok (.if_icmp .le 5, 3) := by decide +kernel
theorem dX4_readNumber_28 : decode cX4_readNumber 28 = .ok (.iconst 0, 1) := by decide +kernel
theorem dX4_readNumber_29 : decode cX4_readNumber 29 = .ok (.ireturn, 1) := by decide +kernel
theorem dX4_readNumber_30 : decode cX4_readNumber 30 = .ok (.aload_n 0, 1) := by decide +kernel
theorem dX4_readNumber_31 : decode cX4_readNumber 31 = .ok (.getfield 23, 3) := by decide +kernel
theorem dX4_readNumber_34 : decode cX4_readNumber 34 = .ok (.iload_n 1, 1) := by decide +kernel
theorem dX4_readNumber_35 : decode cX4_readNumber 35 = .ok (.iload 4, 2) := by decide +kernel
theorem dX4_readNumber_37 : decode cX4_readNumber 37 = .ok (.invokevirtual 117, 3) := by decide +kernel
theorem dX4_readNumber_40 : decode cX4_readNumber 40 = .ok (.aload_n 0, 1) := by decide +kernel
theorem dX4_readNumber_41 : decode cX4_readNumber 41 = .ok (.invokevirtual 34, 3) := by decide +kernel
theorem dX4_readNumber_44 : decode cX4_readNumber 44 = .ok (.iconst 1, 1) := by decide +kernel
theorem dX4_readNumber_45 : decode cX4_readNumber 45 = .ok (.ireturn, 1) := by decide +kernel
theorem dX4_skipKeyword_0 : decode cX4_skipKeyword 0 = .ok (.aload_n 0, 1) := by decide +kernel
theorem dX4_skipKeyword_1 : decode cX4_skipKeyword 1 = .ok (.aload_n 1, 1) := by decide +kernel
theorem dX4_skipKeyword_2 : decode cX4_skipKeyword 2 = .ok (.invokevirtual 80, 3) := by decide +kernel
theorem dX4_skipKeyword_5 : decode cX4_skipKeyword 5 = .ok (.ifCond .ne 5, 3) := by decide +kernel
theorem dX4_skipKeyword_8 : decode cX4_skipKeyword 8 = .ok (.iconst 0, 1) := by decide +kernel
theorem dX4_skipKeyword_9 : decode cX4_skipKeyword 9 = .ok (.ireturn, 1) := by decide +kernel
theorem dX4_skipKeyword_10 : decode cX4_skipKeyword 10 = .ok (.aload_n 0, 1) := by decide +kernel
theorem dX4_skipKeyword_11 : decode cX4_skipKeyword 11 = .ok (.invokevirtual 34, 3) := by decide +kernel
theorem dX4_skipKeyword_14 : decode cX4_skipKeyword 14 = .ok (.iconst 1, 1) := by decide +kernel
theorem dX4_skipKeyword_15 : decode cX4_skipKeyword 15 = .ok (.ireturn, 1) := by decide +kernel
theorem dX4_skipSemicolon_0 : decode cX4_skipSemicolon 0 = .ok (.aload_n 0, 1) := by decide +kernel
theorem dX4_skipSemicolon_1 : decode cX4_skipSemicolon 1 = .ok (.getfield 97, 3) := by decide +kernel
theorem dX4_skipSemicolon_4 : decode cX4_skipSemicolon 4 = .ok (.iconst 3, 1) := by decide +kernel
theorem dX4_skipSemicolon_5 : decode cX4_skipSemicolon 5 = .ok (.if_icmp .eq 5, 3) := by decide +kernel
theorem dX4_skipSemicolon_8 : decode cX4_skipSemicolon 8 = .ok (.iconst 0, 1) := by decide +kernel
theorem dX4_skipSemicolon_9 : decode cX4_skipSemicolon 9 = .ok (.ireturn, 1) := by decide +kernel
theorem dX4_skipSemicolon_10 : decode cX4_skipSemicolon 10 = .ok (.aload_n 0, 1) := by decide +kernel
theorem dX4_skipSemicolon_11 : decode cX4_skipSemicolon 11 = .ok (.invokevirtual 34, 3) := by decide +kernel
theorem dX4_skipSemicolon_14 : decode cX4_skipSemicolon 14 = .ok (.iconst 1, 1) := by decide +kernel
theorem dX4_skipSemicolon_15 : decode cX4_skipSemicolon 15 = .ok (.ireturn, 1) := by decide +kernel
theorem dX4_isKeyword_0 : decode cX4_isKeyword 0 = .ok (.aload_n 0, 1) := by decide +kernel
theorem dX4_isKeyword_1 : decode cX4_isKeyword 1 = .ok (.getfield 97, 3) := by decide +kernel
theorem dX4_isKeyword_4 : decode cX4_isKeyword 4 = .ok (.iconst 1, 1) := by decide +kernel
theorem dX4_isKeyword_5 : decode cX4_isKeyword 5 = .ok (.if_icmp .ne 15, 3) := by decide +kernel
theorem dX4_isKeyword_8 : decode cX4_isKeyword 8 = .ok (.aload_n 0, 1) := by decide +kernel
theorem dX4_isKeyword_9 : decode cX4_isKeyword 9 = .ok (.aload_n 1, 1) := by decide +kernel
theorem dX4_isKeyword_10 : decode cX4_isKeyword 10 = .ok (.invokevirtual 120, 3) := by decide +kernel
theorem dX4_isKeyword_13 : decode cX4_isKeyword 13 = .ok (.ifCond .eq 7, 3) := by decide +kernel
theorem dX4_isKeyword_16 : decode cX4_isKeyword 16 = .ok (.iconst 1, 1) := by decide +kernel
theorem dX4_isKeyword_17 : decode cX4_isKeyword 17 = .ok (.goto 4, 3) := by decide +kernel
theorem dX4_isKeyword_20 : decode cX4_isKeyword 20 = .ok (.iconst 0, 1) := by decide +kernel
theorem dX4_isKeyword_21 : decode cX4_isKeyword 21 = .ok (.ireturn, 1) := by decide +kernel
theorem dX4_isName_0 : decode cX4_isName 0 = .ok (.aload_n 0, 1) := by decide +kernel
theorem dX4_isName_1 : decode cX4_isName 1 = .ok (.getfield 97, 3) := by decide +kernel
theorem dX4_isName_4 : decode cX4_isName 4 = .ok (.iconst 1, 1) := by decide +kernel
theorem dX4_isName_5 : decode cX4_isName 5 = .ok (.if_icmp .ne 28, 3) := by decide +kernel
theorem dX4_isName_8 : decode cX4_isName 8 = .ok (.aload_n 0, 1) := by decide +kernel
theorem dX4_isName_9 : decode cX4_isName 9 = .ok (.getfield 30, 3) := by decide +kernel
theorem dX4_isName_12 : decode cX4_isName 12 = .ok (.aload_n 0, 1) := by decide +kernel
theorem dX4_isName_13 : decode cX4_isName 13 = .ok (.getfield 47, 3) := by decide +kernel
theorem dX4_isName_16 : decode cX4_isName 16 = .ok (.isub, 1) := by decide +kernel
theorem dX4_isName_17 : decode cX4_isName 17 = .ok (.bipush 6, 2) := by decide +kernel
theorem dX4_isName_19 : decode cX4_isName 19 = .ok (.if_icmp .gt 14, 3) := by decide +kernel
theorem dX4_isName_22 : decode cX4_isName 22 = .ok (.aload_n 0, 1) := by decide +kernel
theorem dX4_isName_23 : decode cX4_isName 23 = .ok (.invokevirtual 123, 3) := by decide +kernel
theorem dX4_isName_26 : decode cX4_isName 26 = .ok (.ifCond .ne 7, 3) := by decide +kernel
theorem dX4_isName_29 : decode cX4_isName 29 = .ok (.iconst 1, 1) := by decide +kernel
theorem dX4_isName_30 : decode cX4_isName 30 = .ok (.goto 4, 3) := by decide +kernel
theorem dX4_isName_33 : decode cX4_isName 33 = .ok (.iconst 0, 1) := by decide +kernel
theorem dX4_isName_34 : decode cX4_isName 34 = .ok (.ireturn, 1) := by decide +kernel
theorem dX4_advance_0 : decode cX4_advance 0 = .ok (.aload_n 0, 1) := by decide +kernel
theorem dX4_advance_1 : decode cX4_advance 1 = .ok (.aload_n 0, 1) := by decide +kernel
theorem dX4_advance_2 : decode cX4_advance 2 = .ok (.getfield 30, 3) := by decide +kernel
theorem dX4_advance_5 : decode cX4_advance 5 = .ok (.putfield 47, 3) := by decide +kernel
theorem dX4_advance_8 : decode cX4_advance 8 = .ok (.aload_n 0, 1) := by decide +kernel
theorem dX4_advance_9 : decode cX4_advance 9 = .ok (.getfield 47, 3) := by decide +kernel
theorem dX4_advance_12 : decode cX4_advance 12 = .ok (.aload_n 0, 1) := by decide +kernel
theorem dX4_advance_13 : decode cX4_advance 13 = .ok (.getfield 14, 3) := by decide +kernel
theorem dX4_advance_16 : decode cX4_advance 16 = .ok (.invokevirtual 126, 3) := by decide +kernel
theorem dX4_advance_19 : decode cX4_advance 19 = .ok (.if_icmp .ge 33, 3) := by decide +kernel
theorem dX4_advance_22 : decode cX4_advance 22 = .ok (.aload_n 0, 1) := by decide +kernel
theorem dX4_advance_23 : decode cX4_advance 23 = .ok (.getfield 14, 3) := by decide +kernel
theorem dX4_advance_26 : decode cX4_advance 26 = .ok (.aload_n 0, 1) := by decide +kernel
theorem dX4_advance_27 : decode cX4_advance 27 = .ok (.getfield 47, 3) := by decide +kernel
theorem dX4_advance_30 : decode cX4_advance 30 = .ok (.invokevirtual 129, 3) := by decide +kernel
theorem dX4_advance_33 : decode cX4_advance 33 = .ok (.invokestatic 132, 3) := by decide +kernel
theorem dX4_advance_36 : decode cX4_advance 36 = .ok (.ifCond .eq 16, 3) := by decide +kernel
theorem dX4_advance_39 : decode cX4_advance 39 = .ok (.aload_n 0, 1) := by decide +kernel
theorem dX4_advance_40 : decode cX4_advance 40 = .ok (.dup, 1) := by decide +kernel
theorem dX4_advance_41 : decode cX4_advance 41 = .ok (.getfield 47, 3) := by decide +kernel
theorem dX4_advance_44 : decode cX4_advance 44 = .ok (.iconst 1, 1) := by decide +kernel
theorem dX4_advance_45 : decode cX4_advance 45 = .ok (.iadd, 1) := by decide +kernel
theorem dX4_advance_46 : decode cX4_advance 46 = .ok (.putfield 47, 3) := by decide +kernel
theorem dX4_advance_49 : decode cX4_advance 49 = .ok (.goto (-41), 3) := by decide +kernel
theorem dX4_advance_52 : decode cX4_advance 52 = .ok (.aload_n 0, 1) := by decide +kernel
theorem dX4_advance_53 : decode cX4_advance 53 = .ok (.aload_n 0, 1) := by decide +kernel
theorem dX4_advance_54 : decode cX4_advance 54 = .ok (.getfield 47, 3) := by decide +kernel
theorem dX4_advance_57 : decode cX4_advance 57 = .ok (.putfield 30, 3) := by decide +kernel
theorem dX4_advance_60 : decode cX4_advance 60 = .ok (.aload_n 0, 1) := by decide +kernel
theorem dX4_advance_61 : decode cX4_advance 61 = .ok (.getfield 14, 3) := by decide +kernel
theorem dX4_advance_64 : decode cX4_advance 64 = .ok (.aload_n 0, 1) := by decide +kernel
theorem dX4_advance_65 : decode cX4_advance 65 = .ok (.getfield 47, 3) := by decide +kernel
theorem dX4_advance_68 : decode cX4_advance 68 = .ok (.invokevirtual 129, 3) := by decide +kernel
theorem dX4_advance_71 : decode cX4_advance 71 = .ok (.invokestatic 136, 3) := by decide +kernel
theorem dX4_advance_74 : decode cX4_advance 74 = .ok (.ifCond .eq 55, 3) := by decide +kernel
theorem dX4_advance_77 : decode cX4_advance 77 = .ok (.aload_n 0, 1) := by decide +kernel
theorem dX4_advance_78 : decode cX4_advance 78 = .ok (.getfield 30, 3) := by decide +kernel
theorem dX4_advance_81 : decode cX4_advance 81 = .ok (.aload_n 0, 1) := by decide +kernel
theorem dX4_advance_82 : decode cX4_advance 82 = .ok (.getfield 14, 3) := by decide +kernel
theorem dX4_advance_85 : decode cX4_advance 85 = .ok (.invokevirtual 126, 3) := by decide +kernel
theorem dX4_advance_88 : decode cX4_advance 88 = .ok (.if_icmp .ge 33, 3) := by decide +kernel
theorem dX4_advance_91 : decode cX4_advance 91 = .ok (.aload_n 0, 1) := by decide +kernel
theorem dX4_advance_92 : decode cX4_advance 92 = .ok (.getfield 14, 3) := by decide +kernel
theorem dX4_advance_95 : decode cX4_advance 95 = .ok (.aload_n 0, 1) := by decide +kernel
theorem dX4_advance_96 : decode cX4_advance 96 = .ok (.getfield 30, 3) := by decide +kernel
theorem dX4_advance_99 : decode cX4_advance 99 = .ok (.invokevirtual 129, 3) := by decide +kernel
theorem dX4_advance_102 : decode cX4_advance 102 = .ok (.invokestatic 136, 3) := by decide +kernel
theorem dX4_advance_105 : decode cX4_advance 105 = .ok (.ifCond .eq 16, 3) := by decide +kernel
theorem dX4_advance_108 : decode cX4_advance 108 = .ok (.aload_n 0, 1) := by decide +kernel
theorem dX4_advance_109 : decode cX4_advance 109 = .ok (.dup, 1) := by decide +kernel
theorem dX4_advance_110 : decode cX4_advance 110 = .ok (.getfield 30, 3) := by decide +kernel
theorem dX4_advance_113 : decode cX4_advance 113 = .ok (.iconst 1, 1) := by decide +kernel
theorem dX4_advance_114 : decode cX4_advance 114 = .ok (.iadd, 1) := by decide +kernel
theorem dX4_advance_115 : decode cX4_advance 115 = .ok (.putfield 30, 3) := by decide +kernel
theorem dX4_advance_118 : decode cX4_advance 118 = .ok (.goto (-41), 3) := by decide +kernel
theorem dX4_advance_121 : decode cX4_advance 121 = .ok (.aload_n 0, 1) := by decide +kernel
theorem dX4_advance_122 : decode cX4_advance 122 = .ok (.iconst 1, 1) := by decide +kernel
theorem dX4_advance_123 : decode cX4_advance 123 = .ok (.putfield 97, 3) := by decide +kernel
theorem dX4_advance_126 : decode cX4_advance 126 = .ok (.goto 146, 3) := by decide +kernel
theorem dX4_advance_129 : decode cX4_advance 129 = .ok (.aload_n 0, 1) := by decide +kernel
theorem dX4_advance_130 : decode cX4_advance 130 = .ok (.getfield 14, 3) := by decide +kernel
theorem dX4_advance_133 : decode cX4_advance 133 = .ok (.aload_n 0, 1) := by decide +kernel
theorem dX4_advance_134 : decode cX4_advance 134 = .ok (.getfield 47, 3) := by decide +kernel
theorem dX4_advance_137 : decode cX4_advance 137 = .ok (.invokevirtual 129, 3) := by decide +kernel
theorem dX4_advance_140 : decode cX4_advance 140 = .ok (.invokestatic 139, 3) := by decide +kernel
theorem dX4_advance_143 : decode cX4_advance 143 = .ok (.ifCond .eq 72, 3) := by decide +kernel
theorem dX4_advance_146 : decode cX4_advance 146 = .ok (.aload_n 0, 1) := by decide +kernel
theorem dX4_advance_147 : decode cX4_advance 147 = .ok (.getfield 30, 3) := by decide +kernel
theorem dX4_advance_150 : decode cX4_advance 150 = .ok (.aload_n 0, 1) := by decide +kernel
theorem dX4_advance_151 : decode cX4_advance 151 = .ok (.getfield 14, 3) := by decide +kernel
theorem dX4_advance_154 : decode cX4_advance 154 = .ok (.invokevirtual 126, 3) := by decide +kernel
theorem dX4_advance_157 : decode cX4_advance 157 = .ok (.if_icmp .ge 33, 3) := by decide +kernel
theorem dX4_advance_160 : decode cX4_advance 160 = .ok (.aload_n 0, 1) := by decide +kernel
theorem dX4_advance_161 : decode cX4_advance 161 = .ok (.getfield 14, 3) := by decide +kernel
theorem dX4_advance_164 : decode cX4_advance 164 = .ok (.aload_n 0, 1) := by decide +kernel
theorem dX4_advance_165 : decode cX4_advance 165 = .ok (.getfield 30, 3) := by decide +kernel
theorem dX4_advance_168 : decode cX4_advance 168 = .ok (.invokevirtual 129, 3) := by decide +kernel
theorem dX4_advance_171 : decode cX4_advance 171 = .ok (.invokestatic 139, 3) := by decide +kernel
theorem dX4_advance_174 : decode cX4_advance 174 = .ok (.ifCond .eq 16, 3) := by decide +kernel
theorem dX4_advance_177 : decode cX4_advance 177 = .ok (.aload_n 0, 1) := by decide +kernel
theorem dX4_advance_178 : decode cX4_advance 178 = .ok (.dup, 1) := by decide +kernel
theorem dX4_advance_179 : decode cX4_advance 179 = .ok (.getfield 30, 3) := by decide +kernel
theorem dX4_advance_182 : decode cX4_advance 182 = .ok (.iconst 1, 1) := by decide +kernel
theorem dX4_advance_183 : decode cX4_advance 183 = .ok (.iadd, 1) := by decide +kernel
theorem dX4_advance_184 : decode cX4_advance 184 = .ok (.putfield 30, 3) := by decide +kernel
theorem dX4_advance_187 : decode cX4_advance 187 = .ok (.goto (-41), 3) := by decide +kernel
theorem dX4_advance_190 : decode cX4_advance 190 = .ok (.aload_n 0, 1) := by decide +kernel
theorem dX4_advance_191 : decode cX4_advance 191 = .ok (.aload_n 0, 1) := by decide +kernel
theorem dX4_advance_192 : decode cX4_advance 192 = .ok (.getfield 30, 3) := by decide +kernel
theorem dX4_advance_195 : decode cX4_advance 195 = .ok (.aload_n 0, 1) := by decide +kernel
theorem dX4_advance_196 : decode cX4_advance 196 = .ok (.getfield 47, 3) := by decide +kernel
theorem dX4_advance_199 : decode cX4_advance 199 = .ok (.isub, 1) := by decide +kernel
theorem dX4_advance_200 : decode cX4_advance 200 = .ok (.iconst 3, 1) := by decide +kernel
theorem dX4_advance_201 : decode cX4_advance 201 = .ok (.if_icmp .gt 7, 3) := by decide +kernel
theorem dX4_advance_204 : decode cX4_advance 204 = .ok (.iconst 2, 1) := by decide +kernel
theorem dX4_advance_205 : decode cX4_advance 205 = .ok (.goto 4, 3) := by decide +kernel
theorem dX4_advance_208 : decode cX4_advance 208 = .ok (.iconst 4, 1) := by decide +kernel
theorem dX4_advance_209 : decode cX4_advance 209 = .ok (.putfield 97, 3) := by decide +kernel
theorem dX4_advance_212 : decode cX4_advance 212 = .ok (.goto 60, 3) := by decide +kernel
theorem dX4_advance_215 : decode cX4_advance 215 = .ok (.aload_n 0, 1) := by decide +kernel
theorem dX4_advance_216 : decode cX4_advance 216 = .ok (.getfield 47, 3) := by decide +kernel
theorem dX4_advance_219 : decode cX4_advance 219 = .ok (.aload_n 0, 1) := by decide +kernel
theorem dX4_advance_220 : decode cX4_advance 220 = .ok (.getfield 14, 3) := by decide +kernel
theorem dX4_advance_223 : decode cX4_advance 223 = .ok (.invokevirtual 126, 3) := by decide +kernel
theorem dX4_advance_226 : decode cX4_advance 226 = .ok (.if_icmp .lt 11, 3) := by decide +kernel
theorem dX4_advance_229 : decode cX4_advance 229 = .ok (.aload_n 0, 1) := by decide +kernel
theorem dX4_advance_230 : decode cX4_advance 230 = .ok (.iconst 0, 1) := by decide +kernel
theorem dX4_advance_231 : decode cX4_advance 231 = .ok (.putfield 97, 3) := by decide +kernel
theorem dX4_advance_234 : decode cX4_advance 234 = .ok (.goto 38, 3) := by decide +kernel
theorem dX4_advance_237 : decode cX4_advance 237 = .ok (.aload_n 0, 1) := by decide +kernel
theorem dX4_advance_238 : decode cX4_advance 238 = .ok (.aload_n 0, 1) := by decide +kernel
theorem dX4_advance_239 : decode cX4_advance 239 = .ok (.getfield 14, 3) := by decide +kernel
theorem dX4_advance_242 : decode cX4_advance 242 = .ok (.aload_n 0, 1) := by decide +kernel
theorem dX4_advance_243 : decode cX4_advance 243 = .ok (.getfield 47, 3) := by decide +kernel
theorem dX4_advance_246 : decode cX4_advance 246 = .ok (.invokevirtual 129, 3) := by decide +kernel
theorem dX4_advance_249 : decode cX4_advance 249 = .ok (.bipush 59, 2) := by decide +kernel
theorem dX4_advance_251 : decode cX4_advance 251 = .ok (.if_icmp .ne 7, 3) := by decide +kernel
theorem dX4_advance_254 : decode cX4_advance 254 = .ok (.iconst 3, 1) := by decide +kernel
theorem dX4_advance_255 : decode cX4_advance 255 = .ok (.goto 4, 3) := by decide +kernel
theorem dX4_advance_258 : decode cX4_advance 258 = .ok (.iconst 4, 1) := by decide +kernel
theorem dX4_advance_259 : decode cX4_advance 259 = .ok (.putfield 97, 3) := by decide +kernel
theorem dX4_advance_262 : decode cX4_advance 262 = .ok (.aload_n 0, 1) := by decide +kernel
theorem dX4_advance_263 : decode cX4_advance 263 = .ok (.aload_n 0, 1) := by decide +kernel
theorem dX4_advance_264 : decode cX4_advance 264 = .ok (.getfield 47, 3) := by decide +kernel
theorem dX4_advance_267 : decode cX4_advance 267 = .ok (.iconst 1, 1) := by decide +kernel
theorem dX4_advance_268 : decode cX4_advance 268 = .ok (.iadd, 1) := by decide +kernel
theorem dX4_advance_269 : decode cX4_advance 269 = .ok (.putfield 30, 3) := by decide +kernel
theorem dX4_advance_272 : decode cX4_advance 272 = .ok (.return_, 1) := by decide +kernel
theorem dX4_isAnyKeyword_0 : decode cX4_isAnyKeyword 0 = .ok (.aload_n 0, 1) := by decide +kernel
theorem dX4_isAnyKeyword_1 : decode cX4_isAnyKeyword 1 = .ok (.ldc 50, 2) := by decide +kernel
theorem dX4_isAnyKeyword_3 : decode cX4_isAnyKeyword 3 = .ok (.invokevirtual 120, 3) := by decide +kernel
theorem dX4_isAnyKeyword_6 : decode cX4_isAnyKeyword 6 = .ok (.ifCond .ne 84, 3) := by decide +kernel
theorem dX4_isAnyKeyword_9 : decode cX4_isAnyKeyword 9 = .ok (.aload_n 0, 1) := by decide +kernel
theorem dX4_isAnyKeyword_10 : decode cX4_isAnyKeyword 10 = .ok (.ldc 60, 2) := by decide +kernel
theorem dX4_isAnyKeyword_12 : decode cX4_isAnyKeyword 12 = .ok (.invokevirtual 120, 3) := by decide +kernel
theorem dX4_isAnyKeyword_15 : decode cX4_isAnyKeyword 15 = .ok (.ifCond .ne 75, 3) := by decide +kernel
theorem dX4_isAnyKeyword_18 : decode cX4_isAnyKeyword 18 = .ok (.aload_n 0, 1) := by decide +kernel
theorem dX4_isAnyKeyword_19 : decode cX4_isAnyKeyword 19 = .ok (.ldc 65, 2) := by decide +kernel
theorem dX4_isAnyKeyword_21 : decode cX4_isAnyKeyword 21 = .ok (.invokevirtual 120, 3) := by decide +kernel
theorem dX4_isAnyKeyword_24 : decode cX4_isAnyKeyword 24 = .ok (.ifCond .ne 66, 3) := by decide +kernel
theorem dX4_isAnyKeyword_27 : decode cX4_isAnyKeyword 27 = .ok (.aload_n 0, 1) := by decide +kernel
theorem dX4_isAnyKeyword_28 : decode cX4_isAnyKeyword 28 = .ok (.ldc 67, 2) := by decide +kernel
theorem dX4_isAnyKeyword_30 : decode cX4_isAnyKeyword 30 = .ok (.invokevirtual 120, 3) := by decide +kernel
theorem dX4_isAnyKeyword_33 : decode cX4_isAnyKeyword 33 = .ok (.ifCond .ne 57, 3) := by decide +kernel
theorem dX4_isAnyKeyword_36 : decode cX4_isAnyKeyword 36 = .ok (.aload_n 0, 1) := by decide +kernel
theorem dX4_isAnyKeyword_37 : decode cX4_isAnyKeyword 37 = .ok (.ldc 69, 2) := by decide +kernel
theorem dX4_isAnyKeyword_39 : decode cX4_isAnyKeyword 39 = .ok (.invokevirtual 120, 3) := by decide +kernel
theorem dX4_isAnyKeyword_42 : decode cX4_isAnyKeyword 42 = .ok (.ifCond .ne 48, 3) := by decide +kernel
theorem dX4_isAnyKeyword_45 : decode cX4_isAnyKeyword 45 = .ok (.aload_n 0, 1) := by decide +kernel
theorem dX4_isAnyKeyword_46 : decode cX4_isAnyKeyword 46 = .ok (.ldc 71, 2) := by decide +kernel
theorem dX4_isAnyKeyword_48 : decode cX4_isAnyKeyword 48 = .ok (.invokevirtual 120, 3) := by decide +kernel
theorem dX4_isAnyKeyword_51 : decode cX4_isAnyKeyword 51 = .ok (.ifCond .ne 39, 3) := by decide +kernel
theorem dX4_isAnyKeyword_54 : decode cX4_isAnyKeyword 54 = .ok (.aload_n 0, 1) := by decide +kernel
theorem dX4_isAnyKeyword_55 : decode cX4_isAnyKeyword 55 = .ok (.ldc 73, 2) := by decide +kernel
theorem dX4_isAnyKeyword_57 : decode cX4_isAnyKeyword 57 = .ok (.invokevirtual 120, 3) := by decide +kernel
theorem dX4_isAnyKeyword_60 : decode cX4_isAnyKeyword 60 = .ok (.ifCond .ne 30, 3) := by decide +kernel
theorem dX4_isAnyKeyword_63 : decode cX4_isAnyKeyword 63 = .ok (.aload_n 0, 1) := by decide +kernel
theorem dX4_isAnyKeyword_64 : decode cX4_isAnyKeyword 64 = .ok (.ldc 78, 2) := by decide +kernel
theorem dX4_isAnyKeyword_66 : decode cX4_isAnyKeyword 66 = .ok (.invokevirtual 120, 3) := by decide +kernel
theorem dX4_isAnyKeyword_69 : decode cX4_isAnyKeyword 69 = .ok (.ifCond .ne 21, 3) := by decide +kernel
theorem dX4_isAnyKeyword_72 : decode cX4_isAnyKeyword 72 = .ok (.aload_n 0, 1) := by decide +kernel
theorem dX4_isAnyKeyword_73 : decode cX4_isAnyKeyword 73 = .ok (.ldc 100, 2) := by decide +kernel
theorem dX4_isAnyKeyword_75 : decode cX4_isAnyKeyword 75 = .ok (.invokevirtual 120, 3) := by decide +kernel
theorem dX4_isAnyKeyword_78 : decode cX4_isAnyKeyword 78 = .ok (.ifCond .ne 12, 3) := by decide +kernel
theorem dX4_isAnyKeyword_81 : decode cX4_isAnyKeyword 81 = .ok (.aload_n 0, 1) := by decide +kernel
theorem dX4_isAnyKeyword_82 : decode cX4_isAnyKeyword 82 = .ok (.ldc 108, 2) := by decide +kernel
theorem dX4_isAnyKeyword_84 : decode cX4_isAnyKeyword 84 = .ok (.invokevirtual 120, 3) := by decide +kernel
theorem dX4_isAnyKeyword_87 : decode cX4_isAnyKeyword 87 = .ok (.ifCond .eq 7, 3) := by decide +kernel
theorem dX4_isAnyKeyword_90 : decode cX4_isAnyKeyword 90 = .ok (.iconst 1, 1) := by decide +kernel
theorem dX4_isAnyKeyword_91 : decode cX4_isAnyKeyword 91 = .ok (.goto 4, 3) := by decide +kernel
theorem dX4_isAnyKeyword_94 : decode cX4_isAnyKeyword 94 = .ok (.iconst 0, 1) := by decide +kernel
theorem dX4_isAnyKeyword_95 : decode cX4_isAnyKeyword 95 = .ok (.ireturn, 1) := by decide +kernel
theorem dX4_reads_0 : decode cX4_reads 0 = .ok (.aload_n 0, 1) := by decide +kernel
theorem dX4_reads_1 : decode cX4_reads 1 = .ok (.getfield 30, 3) := by decide +kernel
theorem dX4_reads_4 : decode cX4_reads 4 = .ok (.aload_n 0, 1) := by decide +kernel
theorem dX4_reads_5 : decode cX4_reads 5 = .ok (.getfield 47, 3) := by decide +kernel
theorem dX4_reads_8 : decode cX4_reads 8 = .ok (.isub, 1) := by decide +kernel
theorem dX4_reads_9 : decode cX4_reads 9 = .ok (.aload_n 1, 1) := by decide +kernel
theorem dX4_reads_10 : decode cX4_reads 10 = .ok (.invokevirtual 142, 3) := by decide +kernel
theorem dX4_reads_13 : decode cX4_reads 13 = .ok (.if_icmp .eq 5, 3) := by decide +kernel
theorem dX4_reads_16 : decode cX4_reads 16 = .ok (.iconst 0, 1) := by decide +kernel
theorem dX4_reads_17 : decode cX4_reads 17 = .ok (.ireturn, 1) := by decide +kernel
theorem dX4_reads_18 : decode cX4_reads 18 = .ok (.iconst 0, 1) := by decide +kernel
theorem dX4_reads_19 : decode cX4_reads 19 = .ok (.istore_n 2, 1) := by decide +kernel
theorem dX4_reads_20 : decode cX4_reads 20 = .ok (.iload_n 2, 1) := by decide +kernel
theorem dX4_reads_21 : decode cX4_reads 21 = .ok (.aload_n 1, 1) := by decide +kernel
theorem dX4_reads_22 : decode cX4_reads 22 = .ok (.invokevirtual 142, 3) := by decide +kernel
theorem dX4_reads_25 : decode cX4_reads 25 = .ok (.if_icmp .ge 32, 3) := by decide +kernel
theorem dX4_reads_28 : decode cX4_reads 28 = .ok (.aload_n 0, 1) := by decide +kernel
theorem dX4_reads_29 : decode cX4_reads 29 = .ok (.getfield 14, 3) := by decide +kernel
theorem dX4_reads_32 : decode cX4_reads 32 = .ok (.aload_n 0, 1) := by decide +kernel
theorem dX4_reads_33 : decode cX4_reads 33 = .ok (.getfield 47, 3) := by decide +kernel
theorem dX4_reads_36 : decode cX4_reads 36 = .ok (.iload_n 2, 1) := by decide +kernel
theorem dX4_reads_37 : decode cX4_reads 37 = .ok (.iadd, 1) := by decide +kernel
theorem dX4_reads_38 : decode cX4_reads 38 = .ok (.invokevirtual 129, 3) := by decide +kernel
theorem dX4_reads_41 : decode cX4_reads 41 = .ok (.aload_n 1, 1) := by decide +kernel
theorem dX4_reads_42 : decode cX4_reads 42 = .ok (.iload_n 2, 1) := by decide +kernel
theorem dX4_reads_43 : decode cX4_reads 43 = .ok (.invokevirtual 145, 3) := by decide +kernel
theorem dX4_reads_46 : decode cX4_reads 46 = .ok (.if_icmp .eq 5, 3) := by decide +kernel
theorem dX4_reads_49 : decode cX4_reads 49 = .ok (.iconst 0, 1) := by decide +kernel
theorem dX4_reads_50 : decode cX4_reads 50 = .ok (.ireturn, 1) := by decide +kernel
theorem dX4_reads_51 : decode cX4_reads 51 = .ok (.iinc 2 1, 3) := by decide +kernel
theorem dX4_reads_54 : decode cX4_reads 54 = .ok (.goto (-34), 3) := by decide +kernel
theorem dX4_reads_57 : decode cX4_reads 57 = .ok (.iconst 1, 1) := by decide +kernel
theorem dX4_reads_58 : decode cX4_reads 58 = .ok (.ireturn, 1) := by decide +kernel
theorem dX4_letters_0 : decode cX4_letters 0 = .ok (.iconst 0, 1) := by decide +kernel
theorem dX4_letters_1 : decode cX4_letters 1 = .ok (.istore_n 1, 1) := by decide +kernel
theorem dX4_letters_2 : decode cX4_letters 2 = .ok (.bipush 25, 2) := by decide +kernel
theorem dX4_letters_4 : decode cX4_letters 4 = .ok (.istore_n 2, 1) := by decide +kernel
theorem dX4_letters_5 : decode cX4_letters 5 = .ok (.aload_n 0, 1) := by decide +kernel
theorem dX4_letters_6 : decode cX4_letters 6 = .ok (.getfield 47, 3) := by decide +kernel
theorem dX4_letters_9 : decode cX4_letters 9 = .ok (.istore_n 3, 1) := by decide +kernel
theorem dX4_letters_10 : decode cX4_letters 10 = .ok (.iload_n 3, 1) := by decide +kernel
theorem dX4_letters_11 : decode cX4_letters 11 = .ok (.aload_n 0, 1) := by decide +kernel
theorem dX4_letters_12 : decode cX4_letters 12 = .ok (.getfield 30, 3) := by decide +kernel
theorem dX4_letters_15 : decode cX4_letters 15 = .ok (.if_icmp .ge 34, 3) := by decide +kernel
theorem dX4_letters_18 : decode cX4_letters 18 = .ok (.iload_n 2, 1) := by decide +kernel
theorem dX4_letters_19 : decode cX4_letters 19 = .ok (.ifCond .lt 30, 3) := by decide +kernel
theorem dX4_letters_22 : decode cX4_letters 22 = .ok (.iload_n 1, 1) := by decide +kernel
theorem dX4_letters_23 : decode cX4_letters 23 = .ok (.aload_n 0, 1) := by decide +kernel
theorem dX4_letters_24 : decode cX4_letters 24 = .ok (.getfield 14, 3) := by decide +kernel
theorem dX4_letters_27 : decode cX4_letters 27 = .ok (.iload_n 3, 1) := by decide +kernel
theorem dX4_letters_28 : decode cX4_letters 28 = .ok (.invokevirtual 129, 3) := by decide +kernel
theorem dX4_letters_31 : decode cX4_letters 31 = .ok (.bipush 97, 2) := by decide +kernel
theorem dX4_letters_33 : decode cX4_letters 33 = .ok (.isub, 1) := by decide +kernel
theorem dX4_letters_34 : decode cX4_letters 34 = .ok (.iconst 1, 1) := by decide +kernel
theorem dX4_letters_35 : decode cX4_letters 35 = .ok (.iadd, 1) := by decide +kernel
theorem dX4_letters_36 : decode cX4_letters 36 = .ok (.iload_n 2, 1) := by decide +kernel
theorem dX4_letters_37 : decode cX4_letters 37 = .ok (.ishl, 1) := by decide +kernel
theorem dX4_letters_38 : decode cX4_letters 38 = .ok (.ior, 1) := by decide +kernel
theorem dX4_letters_39 : decode cX4_letters 39 = .ok (.istore_n 1, 1) := by decide +kernel
theorem dX4_letters_40 : decode cX4_letters 40 = .ok (.iinc 2 (-5), 3) := by decide +kernel
theorem dX4_letters_43 : decode cX4_letters 43 = .ok (.iinc 3 1, 3) := by decide +kernel
theorem dX4_letters_46 : decode cX4_letters 46 = .ok (.goto (-36), 3) := by decide +kernel
theorem dX4_letters_49 : decode cX4_letters 49 = .ok (.iload_n 1, 1) := by decide +kernel
theorem dX4_letters_50 : decode cX4_letters 50 = .ok (.ireturn, 1) := by decide +kernel
theorem dX4_digits_0 : decode cX4_digits 0 = .ok (.iconst 0, 1) := by decide +kernel
theorem dX4_digits_1 : decode cX4_digits 1 = .ok (.istore_n 1, 1) := by decide +kernel
theorem dX4_digits_2 : decode cX4_digits 2 = .ok (.aload_n 0, 1) := by decide +kernel
theorem dX4_digits_3 : decode cX4_digits 3 = .ok (.getfield 47, 3) := by decide +kernel
theorem dX4_digits_6 : decode cX4_digits 6 = .ok (.istore_n 2, 1) := by decide +kernel
theorem dX4_digits_7 : decode cX4_digits 7 = .ok (.iload_n 2, 1) := by decide +kernel
theorem dX4_digits_8 : decode cX4_digits 8 = .ok (.aload_n 0, 1) := by decide +kernel
theorem dX4_digits_9 : decode cX4_digits 9 = .ok (.getfield 30, 3) := by decide +kernel
theorem dX4_digits_12 : decode cX4_digits 12 = .ok (.if_icmp .ge 26, 3) := by decide +kernel
theorem dX4_digits_15 : decode cX4_digits 15 = .ok (.iload_n 1, 1) := by decide +kernel
theorem dX4_digits_16 : decode cX4_digits 16 = .ok (.bipush 10, 2) := by decide +kernel
theorem dX4_digits_18 : decode cX4_digits 18 = .ok (.imul, 1) := by decide +kernel
theorem dX4_digits_19 : decode cX4_digits 19 = .ok (.aload_n 0, 1) := by decide +kernel
theorem dX4_digits_20 : decode cX4_digits 20 = .ok (.getfield 14, 3) := by decide +kernel
theorem dX4_digits_23 : decode cX4_digits 23 = .ok (.iload_n 2, 1) := by decide +kernel
theorem dX4_digits_24 : decode cX4_digits 24 = .ok (.invokevirtual 129, 3) := by decide +kernel
theorem dX4_digits_27 : decode cX4_digits 27 = .ok (.iadd, 1) := by decide +kernel
theorem dX4_digits_28 : decode cX4_digits 28 = .ok (.bipush 48, 2) := by decide +kernel
theorem dX4_digits_30 : decode cX4_digits 30 = .ok (.isub, 1) := by decide +kernel
theorem dX4_digits_31 : decode cX4_digits 31 = .ok (.istore_n 1, 1) := by decide +kernel
theorem dX4_digits_32 : decode cX4_digits 32 = .ok (.iinc 2 1, 3) := by decide +kernel
theorem dX4_digits_35 : decode cX4_digits 35 = .ok (.goto (-28), 3) := by decide +kernel
theorem dX4_digits_38 : decode cX4_digits 38 = .ok (.iload_n 1, 1) := by decide +kernel
theorem dX4_digits_39 : decode cX4_digits 39 = .ok (.ireturn, 1) := by decide +kernel
theorem dX4_isSpace_0 : decode cX4_isSpace 0 = .ok (.iload_n 0, 1) := by decide +kernel
theorem dX4_isSpace_1 : decode cX4_isSpace 1 = .ok (.bipush 32, 2) := by decide +kernel
theorem dX4_isSpace_3 : decode cX4_isSpace 3 = .ok (.if_icmp .eq 9, 3) := by decide +kernel
theorem dX4_isSpace_6 : decode cX4_isSpace 6 = .ok (.iload_n 0, 1) := by decide +kernel
theorem dX4_isSpace_7 : decode cX4_isSpace 7 = .ok (.bipush 10, 2) := by decide +kernel
theorem dX4_isSpace_9 : decode cX4_isSpace 9 = .ok (.if_icmp .ne 7, 3) := by decide +kernel
theorem dX4_isSpace_12 : decode cX4_isSpace 12 = .ok (.iconst 1, 1) := by decide +kernel
theorem dX4_isSpace_13 : decode cX4_isSpace 13 = .ok (.goto 4, 3) := by decide +kernel
theorem dX4_isSpace_16 : decode cX4_isSpace 16 = .ok (.iconst 0, 1) := by decide +kernel
theorem dX4_isSpace_17 : decode cX4_isSpace 17 = .ok (.ireturn, 1) := by decide +kernel
theorem dX4_isLetter_0 : decode cX4_isLetter 0 = .ok (.iload_n 0, 1) := by decide +kernel
theorem dX4_isLetter_1 : decode cX4_isLetter 1 = .ok (.bipush 97, 2) := by decide +kernel
theorem dX4_isLetter_3 : decode cX4_isLetter 3 = .ok (.if_icmp .lt 13, 3) := by decide +kernel
theorem dX4_isLetter_6 : decode cX4_isLetter 6 = .ok (.iload_n 0, 1) := by decide +kernel
theorem dX4_isLetter_7 : decode cX4_isLetter 7 = .ok (.bipush 122, 2) := by decide +kernel
theorem dX4_isLetter_9 : decode cX4_isLetter 9 = .ok (.if_icmp .gt 7, 3) := by decide +kernel
theorem dX4_isLetter_12 : decode cX4_isLetter 12 = .ok (.iconst 1, 1) := by decide +kernel
theorem dX4_isLetter_13 : decode cX4_isLetter 13 = .ok (.goto 4, 3) := by decide +kernel
theorem dX4_isLetter_16 : decode cX4_isLetter 16 = .ok (.iconst 0, 1) := by decide +kernel
theorem dX4_isLetter_17 : decode cX4_isLetter 17 = .ok (.ireturn, 1) := by decide +kernel
theorem dX4_isDigit_0 : decode cX4_isDigit 0 = .ok (.iload_n 0, 1) := by decide +kernel
theorem dX4_isDigit_1 : decode cX4_isDigit 1 = .ok (.bipush 48, 2) := by decide +kernel
theorem dX4_isDigit_3 : decode cX4_isDigit 3 = .ok (.if_icmp .lt 13, 3) := by decide +kernel
theorem dX4_isDigit_6 : decode cX4_isDigit 6 = .ok (.iload_n 0, 1) := by decide +kernel
theorem dX4_isDigit_7 : decode cX4_isDigit 7 = .ok (.bipush 57, 2) := by decide +kernel
theorem dX4_isDigit_9 : decode cX4_isDigit 9 = .ok (.if_icmp .gt 7, 3) := by decide +kernel
theorem dX4_isDigit_12 : decode cX4_isDigit 12 = .ok (.iconst 1, 1) := by decide +kernel
theorem dX4_isDigit_13 : decode cX4_isDigit 13 = .ok (.goto 4, 3) := by decide +kernel
theorem dX4_isDigit_16 : decode cX4_isDigit 16 = .ok (.iconst 0, 1) := by decide +kernel
theorem dX4_isDigit_17 : decode cX4_isDigit 17 = .ok (.ireturn, 1) := by decide +kernel
theorem dX5_init_0 : decode cX5_init 0 = .ok (.aload_n 0, 1) := by decide +kernel
theorem dX5_init_1 : decode cX5_init 1 = .ok (.invokespecial 3, 3) := by decide +kernel
theorem dX5_init_4 : decode cX5_init 4 = .ok (.aload_n 0, 1) := by decide +kernel
theorem dX5_init_5 : decode cX5_init 5 = .ok (.iload_n 1, 1) := by decide +kernel
theorem dX5_init_6 : decode cX5_init 6 = .ok (.iconst 1, 1) := by decide +kernel
theorem dX5_init_7 : decode cX5_init 7 = .ok (.invokestatic 9, 3) := by decide +kernel
theorem dX5_init_10 : decode cX5_init 10 = .ok (.putfield 15, 3) := by decide +kernel
theorem dX5_init_13 : decode cX5_init 13 = .ok (.aload_n 0, 1) := by decide +kernel
theorem dX5_init_14 : decode cX5_init 14 = .ok (.aload_n 0, 1) := by decide +kernel
theorem dX5_init_15 : decode cX5_init 15 = .ok (.getfield 15, 3) := by decide +kernel
theorem dX5_init_18 : decode cX5_init 18 = .ok (.iconst 4, 1) := by decide +kernel
theorem dX5_init_19 : decode cX5_init 19 = .ok (.imul, 1) := by decide +kernel
theorem dX5_init_20 : decode cX5_init 20 = .ok (.newarray .int, 2) := by decide +kernel
theorem dX5_init_22 : decode cX5_init 22 = .ok (.putfield 21, 3) := by decide +kernel
theorem dX5_init_25 : decode cX5_init 25 = .ok (.return_, 1) := by decide +kernel
theorem dX5_clear_0 : decode cX5_clear 0 = .ok (.aload_n 0, 1) := by decide +kernel
theorem dX5_clear_1 : decode cX5_clear 1 = .ok (.iconst 0, 1) := by decide +kernel
theorem dX5_clear_2 : decode cX5_clear 2 = .ok (.putfield 25, 3) := by decide +kernel
theorem dX5_clear_5 : decode cX5_clear 5 = .ok (.return_, 1) := by decide +kernel
theorem dX5_copyFrom_0 : decode cX5_copyFrom 0 = .ok (.aload_n 1, 1) := by decide +kernel
theorem dX5_copyFrom_1 : decode cX5_copyFrom 1 = .ok (.getfield 21, 3) := by decide +kernel
theorem dX5_copyFrom_4 : decode cX5_copyFrom 4 = .ok (.aload_n 0, 1) := by decide +kernel
theorem dX5_copyFrom_5 : decode cX5_copyFrom 5 = .ok (.getfield 21, 3) := by decide +kernel
theorem dX5_copyFrom_8 : decode cX5_copyFrom 8 = .ok (.invokestatic 28, 3) := by decide +kernel
theorem dX5_copyFrom_11 : decode cX5_copyFrom 11 = .ok (.aload_n 0, 1) := by decide +kernel
theorem dX5_copyFrom_12 : decode cX5_copyFrom 12 = .ok (.aload_n 1, 1) := by decide +kernel
theorem dX5_copyFrom_13 : decode cX5_copyFrom 13 = .ok (.getfield 25, 3) := by decide +kernel
theorem dX5_copyFrom_16 : decode cX5_copyFrom 16 = .ok (.putfield 25, 3) := by decide +kernel
theorem dX5_copyFrom_19 : decode cX5_copyFrom 19 = .ok (.return_, 1) := by decide +kernel
theorem dX5_size_0 : decode cX5_size 0 = .ok (.aload_n 0, 1) := by decide +kernel
theorem dX5_size_1 : decode cX5_size 1 = .ok (.getfield 25, 3) := by decide +kernel
theorem dX5_size_4 : decode cX5_size 4 = .ok (.aload_n 0, 1) := by decide +kernel
theorem dX5_size_5 : decode cX5_size 5 = .ok (.getfield 15, 3) := by decide +kernel
theorem dX5_size_8 : decode cX5_size 8 = .ok (.invokestatic 32, 3) := by decide +kernel
theorem dX5_size_11 : decode cX5_size 11 = .ok (.ireturn, 1) := by decide +kernel
theorem dX5_oldest_0 : decode cX5_oldest 0 = .ok (.aload_n 0, 1) := by decide +kernel
theorem dX5_oldest_1 : decode cX5_oldest 1 = .ok (.getfield 25, 3) := by decide +kernel
theorem dX5_oldest_4 : decode cX5_oldest 4 = .ok (.aload_n 0, 1) := by decide +kernel
theorem dX5_oldest_5 : decode cX5_oldest 5 = .ok (.getfield 15, 3) := by decide +kernel
theorem dX5_oldest_8 : decode cX5_oldest 8 = .ok (.isub, 1) := by decide +kernel
theorem dX5_oldest_9 : decode cX5_oldest 9 = .ok (.iconst 0, 1) := by decide +kernel
theorem dX5_oldest_10 : decode cX5_oldest 10 = .ok (.invokestatic 9, 3) := by decide +kernel
theorem dX5_oldest_13 : decode cX5_oldest 13 = .ok (.ireturn, 1) := by decide +kernel
theorem dX5_add_0 : decode cX5_add 0 = .ok (.aload_n 0, 1) := by decide +kernel
theorem dX5_add_1 : decode cX5_add 1 = .ok (.aload_n 0, 1) := by decide +kernel
theorem dX5_add_2 : decode cX5_add 2 = .ok (.getfield 25, 3) := by decide +kernel
theorem dX5_add_5 : decode cX5_add 5 = .ok (.invokevirtual 35, 3) := by decide +kernel
theorem dX5_add_8 : decode cX5_add 8 = .ok (.istore 5, 2) := by decide +kernel
theorem dX5_add_10 : decode cX5_add 10 = .ok (.aload_n 0, 1) := by decide +kernel
theorem dX5_add_11 : decode cX5_add 11 = .ok (.getfield 21, 3) := by decide +kernel
theorem dX5_add_14 : decode cX5_add 14 = .ok (.iload 5, 2) := by decide +kernel
theorem dX5_add_16 : decode cX5_add 16 = .ok (.iload_n 1, 1) := by decide +kernel
theorem dX5_add_17 : decode cX5_add 17 = .ok (.invokestatic 39, 3) := by decide +kernel
theorem dX5_add_20 : decode cX5_add 20 = .ok (.aload_n 0, 1) := by decide +kernel
theorem dX5_add_21 : decode cX5_add 21 = .ok (.getfield 21, 3) := by decide +kernel
theorem dX5_add_24 : decode cX5_add 24 = .ok (.iload 5, 2) := by decide +kernel
theorem dX5_add_26 : decode cX5_add 26 = .ok (.iconst 1, 1) := by decide +kernel
theorem dX5_add_27 : decode cX5_add 27 = .ok (.iadd, 1) := by decide +kernel
theorem dX5_add_28 : decode cX5_add 28 = .ok (.iload_n 2, 1) := by decide +kernel
theorem dX5_add_29 : decode cX5_add 29 = .ok (.invokestatic 39, 3) := by decide +kernel
theorem dX5_add_32 : decode cX5_add 32 = .ok (.aload_n 0, 1) := by decide +kernel
theorem dX5_add_33 : decode cX5_add 33 = .ok (.getfield 21, 3) := by decide +kernel
theorem dX5_add_36 : decode cX5_add 36 = .ok (.iload 5, 2) := by decide +kernel
theorem dX5_add_38 : decode cX5_add 38 = .ok (.iconst 2, 1) := by decide +kernel
theorem dX5_add_39 : decode cX5_add 39 = .ok (.iadd, 1) := by decide +kernel
theorem dX5_add_40 : decode cX5_add 40 = .ok (.iload_n 3, 1) := by decide +kernel
theorem dX5_add_41 : decode cX5_add 41 = .ok (.invokestatic 39, 3) := by decide +kernel
theorem dX5_add_44 : decode cX5_add 44 = .ok (.aload_n 0, 1) := by decide +kernel
theorem dX5_add_45 : decode cX5_add 45 = .ok (.getfield 21, 3) := by decide +kernel
theorem dX5_add_48 : decode cX5_add 48 = .ok (.iload 5, 2) := by decide +kernel
theorem dX5_add_50 : decode cX5_add 50 = .ok (.iconst 3, 1) := by decide +kernel
theorem dX5_add_51 : decode cX5_add 51 = .ok (.iadd, 1) := by decide +kernel
theorem dX5_add_52 : decode cX5_add 52 = .ok (.iload 4, 2) := by decide +kernel
theorem dX5_add_54 : decode cX5_add 54 = .ok (.invokestatic 39, 3) := by decide +kernel
theorem dX5_add_57 : decode cX5_add 57 = .ok (.aload_n 0, 1) := by decide +kernel
theorem dX5_add_58 : decode cX5_add 58 = .ok (.dup, 1) := by decide +kernel
theorem dX5_add_59 : decode cX5_add 59 = .ok (.getfield 25, 3) := by decide +kernel
theorem dX5_add_62 : decode cX5_add 62 = .ok (.iconst 1, 1) := by decide +kernel
theorem dX5_add_63 : decode cX5_add 63 = .ok (.iadd, 1) := by decide +kernel
theorem dX5_add_64 : decode cX5_add 64 = .ok (.putfield 25, 3) := by decide +kernel
theorem dX5_add_67 : decode cX5_add 67 = .ok (.return_, 1) := by decide +kernel
theorem dX5_has_0 : decode cX5_has 0 = .ok (.iload_n 1, 1) := by decide +kernel
theorem dX5_has_1 : decode cX5_has 1 = .ok (.aload_n 0, 1) := by decide +kernel
theorem dX5_has_2 : decode cX5_has 2 = .ok (.invokevirtual 43, 3) := by decide +kernel
theorem dX5_has_5 : decode cX5_has 5 = .ok (.if_icmp .lt 15, 3) := by decide +kernel
theorem dX5_has_8 : decode cX5_has 8 = .ok (.iload_n 1, 1) := by decide +kernel
theorem dX5_has_9 : decode cX5_has 9 = .ok (.aload_n 0, 1) := by decide +kernel
theorem dX5_has_10 : decode cX5_has 10 = .ok (.getfield 25, 3) := by decide +kernel
theorem dX5_has_13 : decode cX5_has 13 = .ok (.if_icmp .ge 7, 3) := by decide +kernel
theorem dX5_has_16 : decode cX5_has 16 = .ok (.iconst 1, 1) := by decide +kernel
theorem dX5_has_17 : decode cX5_has 17 = .ok (.goto 4, 3) := by decide +kernel
theorem dX5_has_20 : decode cX5_has 20 = .ok (.iconst 0, 1) := by decide +kernel
theorem dX5_has_21 : decode cX5_has 21 = .ok (.ireturn, 1) := by decide +kernel
theorem dX5_part_0 : decode cX5_part 0 = .ok (.aload_n 0, 1) := by decide +kernel
theorem dX5_part_1 : decode cX5_part 1 = .ok (.iload_n 1, 1) := by decide +kernel
theorem dX5_part_2 : decode cX5_part 2 = .ok (.invokevirtual 47, 3) := by decide +kernel
theorem dX5_part_5 : decode cX5_part 5 = .ok (.ifCond .eq 11, 3) := by decide +kernel
theorem dX5_part_8 : decode cX5_part 8 = .ok (.iload_n 2, 1) := by decide +kernel
theorem dX5_part_9 : decode cX5_part 9 = .ok (.iconst 4, 1) := by decide +kernel
theorem dX5_part_10 : decode cX5_part 10 = .ok (.invokestatic 51, 3) := by decide +kernel
theorem dX5_part_13 : decode cX5_part 13 = .ok (.ifCond .ne 6, 3) := by decide +kernel
theorem dX5_part_16 : decode cX5_part 16 = .ok (.bipush (-2), 2) := by decide +kernel
theorem dX5_part_18 : decode cX5_part 18 = .ok (.ireturn, 1) := by decide +kernel
theorem dX5_part_19 : decode cX5_part 19 = .ok (.aload_n 0, 1) := by decide +kernel
theorem dX5_part_20 : decode cX5_part 20 = .ok (.getfield 21, 3) := by decide +kernel
theorem dX5_part_23 : decode cX5_part 23 = .ok (.aload_n 0, 1) := by decide +kernel
theorem dX5_part_24 : decode cX5_part 24 = .ok (.iload_n 1, 1) := by decide +kernel
theorem dX5_part_25 : decode cX5_part 25 = .ok (.invokevirtual 35, 3) := by decide +kernel
theorem dX5_part_28 : decode cX5_part 28 = .ok (.iload_n 2, 1) := by decide +kernel
theorem dX5_part_29 : decode cX5_part 29 = .ok (.iadd, 1) := by decide +kernel
theorem dX5_part_30 : decode cX5_part 30 = .ok (.bipush (-2), 2) := by decide +kernel
theorem dX5_part_32 : decode cX5_part 32 = .ok (.invokestatic 55, 3) := by decide +kernel
theorem dX5_part_35 : decode cX5_part 35 = .ok (.ireturn, 1) := by decide +kernel
theorem dX5_setPart_0 : decode cX5_setPart 0 = .ok (.aload_n 0, 1) := by decide +kernel
theorem dX5_setPart_1 : decode cX5_setPart 1 = .ok (.iload_n 1, 1) := by decide +kernel
theorem dX5_setPart_2 : decode cX5_setPart 2 = .ok (.invokevirtual 47, 3) := by decide +kernel
theorem dX5_setPart_5 : decode cX5_setPart 5 = .ok (.ifCond .eq 26, 3) := by decide +kernel
theorem dX5_setPart_8 : decode cX5_setPart 8 = .ok (.iload_n 2, 1) := by decide +kernel
theorem dX5_setPart_9 : decode cX5_setPart 9 = .ok (.iconst 4, 1) := by decide +kernel
theorem dX5_setPart_10 : decode cX5_setPart 10 = .ok (.invokestatic 51, 3) := by decide +kernel
theorem dX5_setPart_13 : decode cX5_setPart 13 = .ok (.ifCond .eq 18, 3) := by decide +kernel
theorem dX5_setPart_16 : decode cX5_setPart 16 = .ok (.aload_n 0, 1) := by decide +kernel
theorem dX5_setPart_17 : decode cX5_setPart 17 = .ok (.getfield 21, 3) := by decide +kernel
theorem dX5_setPart_20 : decode cX5_setPart 20 = .ok (.aload_n 0, 1) := by decide +kernel
theorem dX5_setPart_21 : decode cX5_setPart 21 = .ok (.iload_n 1, 1) := by decide +kernel
theorem dX5_setPart_22 : decode cX5_setPart 22 = .ok (.invokevirtual 35, 3) := by decide +kernel
theorem dX5_setPart_25 : decode cX5_setPart 25 = .ok (.iload_n 2, 1) := by decide +kernel
theorem dX5_setPart_26 : decode cX5_setPart 26 = .ok (.iadd, 1) := by decide +kernel
theorem dX5_setPart_27 : decode cX5_setPart 27 = .ok (.iload_n 3, 1) := by decide +kernel
theorem dX5_setPart_28 : decode cX5_setPart 28 = .ok (.invokestatic 39, 3) := by decide +kernel
theorem dX5_setPart_31 : decode cX5_setPart 31 = .ok (.return_, 1) := by decide +kernel
theorem dX5_placeOf_0 : decode cX5_placeOf 0 = .ok (.aload_n 0, 1) := by decide +kernel
theorem dX5_placeOf_1 : decode cX5_placeOf 1 = .ok (.getfield 15, 3) := by decide +kernel
theorem dX5_placeOf_4 : decode cX5_placeOf 4 = .ok (.iconst 1, 1) := by decide +kernel
theorem dX5_placeOf_5 : decode cX5_placeOf 5 = .ok (.if_icmp .ge 7, 3) := by decide +kernel
theorem dX5_placeOf_8 : decode cX5_placeOf 8 = .ok (.iconst 0, 1) := by decide +kernel
theorem dX5_placeOf_9 : decode cX5_placeOf 9 = .ok (.goto 13, 3) := by decide +kernel
theorem dX5_placeOf_12 : decode cX5_placeOf 12 = .ok (.iload_n 1, 1) := by decide +kernel
theorem dX5_placeOf_13 : decode cX5_placeOf 13 = .ok (.aload_n 0, 1) := by decide +kernel
theorem dX5_placeOf_14 : decode cX5_placeOf 14 = .ok (.getfield 15, 3) := by decide +kernel
theorem dX5_placeOf_17 : decode cX5_placeOf 17 = .ok (.invokestatic 59, 3) := by decide +kernel
theorem dX5_placeOf_20 : decode cX5_placeOf 20 = .ok (.iconst 4, 1) := by decide +kernel
theorem dX5_placeOf_21 : decode cX5_placeOf 21 = .ok (.imul, 1) := by decide +kernel
theorem dX5_placeOf_22 : decode cX5_placeOf 22 = .ok (.ireturn, 1) := by decide +kernel
theorem dX6_init_0 : decode cX6_init 0 = .ok (.aload_n 0, 1) := by decide +kernel
theorem dX6_init_1 : decode cX6_init 1 = .ok (.invokespecial 3, 3) := by decide +kernel
theorem dX6_init_4 : decode cX6_init 4 = .ok (.aload_n 0, 1) := by decide +kernel
theorem dX6_init_5 : decode cX6_init 5 = .ok (.new 9, 3) := by decide +kernel
theorem dX6_init_8 : decode cX6_init 8 = .ok (.dup, 1) := by decide +kernel
theorem dX6_init_9 : decode cX6_init 9 = .ok (.sipush 2048, 3) := by decide +kernel
theorem dX6_init_12 : decode cX6_init 12 = .ok (.invokespecial 11, 3) := by decide +kernel
theorem dX6_init_15 : decode cX6_init 15 = .ok (.putfield 14, 3) := by decide +kernel
theorem dX6_init_18 : decode cX6_init 18 = .ok (.return_, 1) := by decide +kernel
theorem dX6_writeView_0 : decode cX6_writeView 0 = .ok (.aload_n 0, 1) := by decide +kernel
theorem dX6_writeView_1 : decode cX6_writeView 1 = .ok (.getfield 14, 3) := by decide +kernel
theorem dX6_writeView_4 : decode cX6_writeView 4 = .ok (.iconst 0, 1) := by decide +kernel
theorem dX6_writeView_5 : decode cX6_writeView 5 = .ok (.invokevirtual 20, 3) := by decide +kernel
theorem dX6_writeView_8 : decode cX6_writeView 8 = .ok (.iconst 0, 1) := by decide +kernel
theorem dX6_writeView_9 : decode cX6_writeView 9 = .ok (.istore_n 3, 1) := by decide +kernel
theorem dX6_writeView_10 : decode cX6_writeView 10 = .ok (.iload_n 3, 1) := by decide +kernel
theorem dX6_writeView_11 : decode cX6_writeView 11 = .ok (.aload_n 1, 1) := by decide +kernel
theorem dX6_writeView_12 : decode cX6_writeView 12 = .ok (.invokevirtual 23, 3) := by decide +kernel
theorem dX6_writeView_15 : decode cX6_writeView 15 = .ok (.if_icmp .ge 69, 3) := by decide +kernel
theorem dX6_writeView_18 : decode cX6_writeView 18 = .ok (.aload_n 0, 1) := by decide +kernel
theorem dX6_writeView_19 : decode cX6_writeView 19 = .ok (.getfield 14, 3) := by decide +kernel
theorem dX6_writeView_22 : decode cX6_writeView 22 = .ok (.aload_n 1, 1) := by decide +kernel
theorem dX6_writeView_23 : decode cX6_writeView 23 = .ok (.iload_n 3, 1) := by decide +kernel
theorem dX6_writeView_24 : decode cX6_writeView 24 = .ok (.invokevirtual 29, 3) := by decide +kernel
theorem dX6_writeView_27 : decode cX6_writeView 27 = .ok (.invokevirtual 33, 3) := by decide +kernel
theorem dX6_writeView_30 : decode cX6_writeView 30 = .ok (.aload_n 0, 1) := by decide +kernel
theorem dX6_writeView_31 : decode cX6_writeView 31 = .ok (.getfield 14, 3) := by decide +kernel
theorem dX6_writeView_34 : decode cX6_writeView 34 = .ok (.bipush 32, 2) := by decide +kernel
theorem dX6_writeView_36 : decode cX6_writeView 36 = .ok (.invokevirtual 36, 3) := by decide +kernel
theorem dX6_writeView_39 : decode cX6_writeView 39 = .ok (.aload_n 0, 1) := by decide +kernel
theorem dX6_writeView_40 : decode cX6_writeView 40 = .ok (.aload_n 1, 1) := by decide +kernel
theorem dX6_writeView_41 : decode cX6_writeView 41 = .ok (.aload_n 2, 1) := by decide +kernel
theorem dX6_writeView_42 : decode cX6_writeView 42 = .ok (.getfield 39, 3) := by decide +kernel
theorem dX6_writeView_45 : decode cX6_writeView 45 = .ok (.iload_n 3, 1) := by decide +kernel
theorem dX6_writeView_46 : decode cX6_writeView 46 = .ok (.invokevirtual 45, 3) := by decide +kernel
theorem dX6_writeView_49 : decode cX6_writeView 49 = .ok (.aload_n 2, 1) := by decide +kernel
theorem dX6_writeView_50 : decode cX6_writeView 50 = .ok (.getfield 49, 3) := by decide +kernel
theorem dX6_writeView_53 : decode cX6_writeView 53 = .ok (.iload_n 3, 1) := by decide +kernel
theorem dX6_writeView_54 : decode cX6_writeView 54 = .ok (.invokevirtual 53, 3) := by decide +kernel
theorem dX6_writeView_57 : decode cX6_writeView 57 = .ok (.ifCond .eq 12, 3) := by decide +kernel
theorem dX6_writeView_60 : decode cX6_writeView 60 = .ok (.aload_n 0, 1) := by decide +kernel
theorem dX6_writeView_61 : decode cX6_writeView 61 = .ok (.getfield 14, 3) := by decide +kernel
theorem dX6_writeView_64 : decode cX6_writeView 64 = .ok (.ldc 59, 2) := by decide +kernel
theorem dX6_writeView_66 : decode cX6_writeView 66 = .ok (.invokevirtual 61, 3) := by decide +kernel
theorem dX6_writeView_69 : decode cX6_writeView 69 = .ok (.aload_n 0, 1) := by decide +kernel
theorem dX6_writeView_70 : decode cX6_writeView 70 = .ok (.getfield 14, 3) := by decide +kernel
theorem dX6_writeView_73 : decode cX6_writeView 73 = .ok (.bipush 10, 2) := by decide +kernel
theorem dX6_writeView_75 : decode cX6_writeView 75 = .ok (.invokevirtual 36, 3) := by decide +kernel
theorem dX6_writeView_78 : decode cX6_writeView 78 = .ok (.iinc 3 1, 3) := by decide +kernel
theorem dX6_writeView_81 : decode cX6_writeView 81 = .ok (.goto (-71), 3) := by decide +kernel
theorem dX6_writeView_84 : decode cX6_writeView 84 = .ok (.aload_n 0, 1) := by decide +kernel
theorem dX6_writeView_85 : decode cX6_writeView 85 = .ok (.getfield 14, 3) := by decide +kernel
theorem dX6_writeView_88 : decode cX6_writeView 88 = .ok (.areturn, 1) := by decide +kernel
theorem dX6_writeStick_0 : decode cX6_writeStick 0 = .ok (.aload_n 2, 1) := by decide +kernel
theorem dX6_writeStick_1 : decode cX6_writeStick 1 = .ok (.iload_n 3, 1) := by decide +kernel
theorem dX6_writeStick_2 : decode cX6_writeStick 2 = .ok (.invokevirtual 65, 3) := by decide +kernel
theorem dX6_writeStick_5 : decode cX6_writeStick 5 = .ok (.istore 4, 2) := by decide +kernel
theorem dX6_writeStick_7 : decode cX6_writeStick 7 = .ok (.aload_n 2, 1) := by decide +kernel
theorem dX6_writeStick_8 : decode cX6_writeStick 8 = .ok (.iload_n 3, 1) := by decide +kernel
theorem dX6_writeStick_9 : decode cX6_writeStick 9 = .ok (.invokevirtual 70, 3) := by decide +kernel
theorem dX6_writeStick_12 : decode cX6_writeStick 12 = .ok (.istore 5, 2) := by decide +kernel
theorem dX6_writeStick_14 : decode cX6_writeStick 14 = .ok (.aload_n 0, 1) := by decide +kernel
theorem dX6_writeStick_15 : decode cX6_writeStick 15 = .ok (.getfield 14, 3) := by decide +kernel
theorem dX6_writeStick_18 : decode cX6_writeStick 18 = .ok (.aload_n 2, 1) := by decide +kernel
theorem dX6_writeStick_19 : decode cX6_writeStick 19 = .ok (.iload_n 3, 1) := by decide +kernel
theorem dX6_writeStick_20 : decode cX6_writeStick 20 = .ok (.invokevirtual 73, 3) := by decide +kernel
theorem dX6_writeStick_23 : decode cX6_writeStick 23 = .ok (.invokestatic 76, 3) := by decide +kernel
theorem dX6_writeStick_26 : decode cX6_writeStick 26 = .ok (.invokevirtual 61, 3) := by decide +kernel
theorem dX6_writeStick_29 : decode cX6_writeStick 29 = .ok (.iload 4, 2) := by decide +kernel
theorem dX6_writeStick_31 : decode cX6_writeStick 31 = .ok (.bipush (-2), 2) := by decide +kernel
theorem dX6_writeStick_33 : decode cX6_writeStick 33 = .ok (.if_icmp .eq 25, 3) := by decide +kernel
theorem dX6_writeStick_36 : decode cX6_writeStick 36 = .ok (.aload_n 0, 1) := by decide +kernel
theorem dX6_writeStick_37 : decode cX6_writeStick 37 = .ok (.getfield 14, 3) := by decide +kernel
theorem dX6_writeStick_40 : decode cX6_writeStick 40 = .ok (.bipush 32, 2) := by decide +kernel
theorem dX6_writeStick_42 : decode cX6_writeStick 42 = .ok (.invokevirtual 36, 3) := by decide +kernel
theorem dX6_writeStick_45 : decode cX6_writeStick 45 = .ok (.aload_n 0, 1) := by decide +kernel
theorem dX6_writeStick_46 : decode cX6_writeStick 46 = .ok (.getfield 14, 3) := by decide +kernel
theorem dX6_writeStick_49 : decode cX6_writeStick 49 = .ok (.aload_n 1, 1) := by decide +kernel
theorem dX6_writeStick_50 : decode cX6_writeStick 50 = .ok (.iload 4, 2) := by decide +kernel
theorem dX6_writeStick_52 : decode cX6_writeStick 52 = .ok (.invokevirtual 29, 3) := by decide +kernel
theorem dX6_writeStick_55 : decode cX6_writeStick 55 = .ok (.invokevirtual 33, 3) := by decide +kernel
theorem dX6_writeStick_58 : decode cX6_writeStick 58 = .ok (.iload 5, 2) := by decide +kernel
theorem dX6_writeStick_60 : decode cX6_writeStick 60 = .ok (.bipush (-2), 2) := by decide +kernel
theorem dX6_writeStick_62 : decode cX6_writeStick 62 = .ok (.if_icmp .eq 9, 3) := by decide +kernel
theorem dX6_writeStick_65 : decode cX6_writeStick 65 = .ok (.aload_n 0, 1) := by decide +kernel
theorem dX6_writeStick_66 : decode cX6_writeStick 66 = .ok (.iload 5, 2) := by decide +kernel
theorem dX6_writeStick_68 : decode cX6_writeStick 68 = .ok (.invokevirtual 80, 3) := by decide +kernel
theorem dX6_writeStick_71 : decode cX6_writeStick 71 = .ok (.return_, 1) := by decide +kernel
theorem dX6_placeWord_0 : decode cX6_placeWord 0 = .ok (.iload_n 0, 1) := by decide +kernel
theorem dX6_placeWord_1 : decode cX6_placeWord 1 = .ok (.tableswitch 36 0 2 #[27, 30, 33], 27) := by decide +kernel
theorem dX6_placeWord_28 : decode cX6_placeWord 28 = .ok (.ldc 83, 2) := by decide +kernel
theorem dX6_placeWord_30 : decode cX6_placeWord 30 = .ok (.areturn, 1) := by decide +kernel
theorem dX6_placeWord_31 : decode cX6_placeWord 31 = .ok (.ldc 85, 2) := by decide +kernel
theorem dX6_placeWord_33 : decode cX6_placeWord 33 = .ok (.areturn, 1) := by decide +kernel
theorem dX6_placeWord_34 : decode cX6_placeWord 34 = .ok (.ldc 87, 2) := by decide +kernel
theorem dX6_placeWord_36 : decode cX6_placeWord 36 = .ok (.areturn, 1) := by decide +kernel
theorem dX6_placeWord_37 : decode cX6_placeWord 37 = .ok (.ldc 89, 2) := by decide +kernel
theorem dX6_placeWord_39 : decode cX6_placeWord 39 = .ok (.areturn, 1) := by decide +kernel
theorem dX6_writeStory_0 : decode cX6_writeStory 0 = .ok (.aload_n 0, 1) := by decide +kernel
theorem dX6_writeStory_1 : decode cX6_writeStory 1 = .ok (.getfield 14, 3) := by decide +kernel
theorem dX6_writeStory_4 : decode cX6_writeStory 4 = .ok (.iconst 0, 1) := by decide +kernel
theorem dX6_writeStory_5 : decode cX6_writeStory 5 = .ok (.invokevirtual 20, 3) := by decide +kernel
theorem dX6_writeStory_8 : decode cX6_writeStory 8 = .ok (.iconst 0, 1) := by decide +kernel
theorem dX6_writeStory_9 : decode cX6_writeStory 9 = .ok (.istore_n 2, 1) := by decide +kernel
theorem dX6_writeStory_10 : decode cX6_writeStory 10 = .ok (.iload_n 2, 1) := by decide +kernel
theorem dX6_writeStory_11 : decode cX6_writeStory 11 = .ok (.aload_n 1, 1) := by decide +kernel
theorem dX6_writeStory_12 : decode cX6_writeStory 12 = .ok (.invokevirtual 91, 3) := by decide +kernel
theorem dX6_writeStory_15 : decode cX6_writeStory 15 = .ok (.if_icmp .ge 83, 3) := by decide +kernel
theorem dX6_writeStory_18 : decode cX6_writeStory 18 = .ok (.aload_n 1, 1) := by decide +kernel
theorem dX6_writeStory_19 : decode cX6_writeStory 19 = .ok (.invokevirtual 96, 3) := by decide +kernel
theorem dX6_writeStory_22 : decode cX6_writeStory 22 = .ok (.iload_n 2, 1) := by decide +kernel
theorem dX6_writeStory_23 : decode cX6_writeStory 23 = .ok (.iadd, 1) := by decide +kernel
theorem dX6_writeStory_24 : decode cX6_writeStory 24 = .ok (.istore_n 3, 1) := by decide +kernel
theorem dX6_writeStory_25 : decode cX6_writeStory 25 = .ok (.aload_n 0, 1) := by decide +kernel
theorem dX6_writeStory_26 : decode cX6_writeStory 26 = .ok (.getfield 14, 3) := by decide +kernel
theorem dX6_writeStory_29 : decode cX6_writeStory 29 = .ok (.aload_n 1, 1) := by decide +kernel
theorem dX6_writeStory_30 : decode cX6_writeStory 30 = .ok (.iload_n 3, 1) := by decide +kernel
theorem dX6_writeStory_31 : decode cX6_writeStory 31 = .ok (.iconst 0, 1) := by decide +kernel
theorem dX6_writeStory_32 : decode cX6_writeStory 32 = .ok (.invokevirtual 99, 3) := by decide +kernel
theorem dX6_writeStory_35 : decode cX6_writeStory 35 = .ok (.invokevirtual 103, 3) := by decide +kernel
theorem dX6_writeStory_38 : decode cX6_writeStory 38 = .ok (.aload_n 0, 1) := by decide +kernel
theorem dX6_writeStory_39 : decode cX6_writeStory 39 = .ok (.getfield 14, 3) := by decide +kernel
theorem dX6_writeStory_42 : decode cX6_writeStory 42 = .ok (.bipush 32, 2) := by decide +kernel
theorem dX6_writeStory_44 : decode cX6_writeStory 44 = .ok (.invokevirtual 36, 3) := by decide +kernel
theorem dX6_writeStory_47 : decode cX6_writeStory 47 = .ok (.aload_n 0, 1) := by decide +kernel
theorem dX6_writeStory_48 : decode cX6_writeStory 48 = .ok (.getfield 14, 3) := by decide +kernel
theorem dX6_writeStory_51 : decode cX6_writeStory 51 = .ok (.aload_n 1, 1) := by decide +kernel
theorem dX6_writeStory_52 : decode cX6_writeStory 52 = .ok (.iload_n 3, 1) := by decide +kernel
theorem dX6_writeStory_53 : decode cX6_writeStory 53 = .ok (.iconst 1, 1) := by decide +kernel
theorem dX6_writeStory_54 : decode cX6_writeStory 54 = .ok (.invokevirtual 99, 3) := by decide +kernel
theorem dX6_writeStory_57 : decode cX6_writeStory 57 = .ok (.invokestatic 106, 3) := by decide +kernel
theorem dX6_writeStory_60 : decode cX6_writeStory 60 = .ok (.invokevirtual 61, 3) := by decide +kernel
theorem dX6_writeStory_63 : decode cX6_writeStory 63 = .ok (.aload_n 0, 1) := by decide +kernel
theorem dX6_writeStory_64 : decode cX6_writeStory 64 = .ok (.aload_n 1, 1) := by decide +kernel
theorem dX6_writeStory_65 : decode cX6_writeStory 65 = .ok (.iload_n 3, 1) := by decide +kernel
theorem dX6_writeStory_66 : decode cX6_writeStory 66 = .ok (.iconst 2, 1) := by decide +kernel
theorem dX6_writeStory_67 : decode cX6_writeStory 67 = .ok (.invokevirtual 99, 3) := by decide +kernel
theorem dX6_writeStory_70 : decode cX6_writeStory 70 = .ok (.invokevirtual 80, 3) := by decide +kernel
theorem dX6_writeStory_73 : decode cX6_writeStory 73 = .ok (.aload_n 0, 1) := by decide +kernel
theorem dX6_writeStory_74 : decode cX6_writeStory 74 = .ok (.aload_n 1, 1) := by decide +kernel
theorem dX6_writeStory_75 : decode cX6_writeStory 75 = .ok (.iload_n 3, 1) := by decide +kernel
theorem dX6_writeStory_76 : decode cX6_writeStory 76 = .ok (.iconst 3, 1) := by decide +kernel
theorem dX6_writeStory_77 : decode cX6_writeStory 77 = .ok (.invokevirtual 99, 3) := by decide +kernel
theorem dX6_writeStory_80 : decode cX6_writeStory 80 = .ok (.invokevirtual 80, 3) := by decide +kernel
theorem dX6_writeStory_83 : decode cX6_writeStory 83 = .ok (.aload_n 0, 1) := by decide +kernel
theorem dX6_writeStory_84 : decode cX6_writeStory 84 = .ok (.getfield 14, 3) := by decide +kernel
theorem dX6_writeStory_87 : decode cX6_writeStory 87 = .ok (.bipush 10, 2) := by decide +kernel
theorem dX6_writeStory_89 : decode cX6_writeStory 89 = .ok (.invokevirtual 36, 3) := by decide +kernel
theorem dX6_writeStory_92 : decode cX6_writeStory 92 = .ok (.iinc 2 1, 3) := by decide +kernel
theorem dX6_writeStory_95 : decode cX6_writeStory 95 = .ok (.goto (-85), 3) := by decide +kernel
theorem dX6_writeStory_98 : decode cX6_writeStory 98 = .ok (.aload_n 0, 1) := by decide +kernel
theorem dX6_writeStory_99 : decode cX6_writeStory 99 = .ok (.getfield 14, 3) := by decide +kernel
theorem dX6_writeStory_102 : decode cX6_writeStory 102 = .ok (.areturn, 1) := by decide +kernel
theorem dX6_kindWord_0 : decode cX6_kindWord 0 = .ok (.iload_n 0, 1) := by decide +kernel
theorem dX6_kindWord_1 : decode cX6_kindWord 1 = .ok (.tableswitch 64 0 6 #[43, 46, 49, 52, 55, 58, 61], 43) := by decide +kernel
theorem dX6_kindWord_44 : decode cX6_kindWord 44 = .ok (.ldc 109, 2) := by decide +kernel
theorem dX6_kindWord_46 : decode cX6_kindWord 46 = .ok (.areturn, 1) := by decide +kernel
theorem dX6_kindWord_47 : decode cX6_kindWord 47 = .ok (.ldc 111, 2) := by decide +kernel
theorem dX6_kindWord_49 : decode cX6_kindWord 49 = .ok (.areturn, 1) := by decide +kernel
theorem dX6_kindWord_50 : decode cX6_kindWord 50 = .ok (.ldc 113, 2) := by decide +kernel
theorem dX6_kindWord_52 : decode cX6_kindWord 52 = .ok (.areturn, 1) := by decide +kernel
theorem dX6_kindWord_53 : decode cX6_kindWord 53 = .ok (.ldc 87, 2) := by decide +kernel
theorem dX6_kindWord_55 : decode cX6_kindWord 55 = .ok (.areturn, 1) := by decide +kernel
theorem dX6_kindWord_56 : decode cX6_kindWord 56 = .ok (.ldc 89, 2) := by decide +kernel
theorem dX6_kindWord_58 : decode cX6_kindWord 58 = .ok (.areturn, 1) := by decide +kernel
theorem dX6_kindWord_59 : decode cX6_kindWord 59 = .ok (.ldc 115, 2) := by decide +kernel
theorem dX6_kindWord_61 : decode cX6_kindWord 61 = .ok (.areturn, 1) := by decide +kernel
theorem dX6_kindWord_62 : decode cX6_kindWord 62 = .ok (.ldc 117, 2) := by decide +kernel
theorem dX6_kindWord_64 : decode cX6_kindWord 64 = .ok (.areturn, 1) := by decide +kernel
theorem dX6_kindWord_65 : decode cX6_kindWord 65 = .ok (.ldc 119, 2) := by decide +kernel
theorem dX6_kindWord_67 : decode cX6_kindWord 67 = .ok (.areturn, 1) := by decide +kernel
theorem dX6_writeSetup_0 : decode cX6_writeSetup 0 = .ok (.aload_n 0, 1) := by decide +kernel
theorem dX6_writeSetup_1 : decode cX6_writeSetup 1 = .ok (.getfield 14, 3) := by decide +kernel
theorem dX6_writeSetup_4 : decode cX6_writeSetup 4 = .ok (.iconst 0, 1) := by decide +kernel
theorem dX6_writeSetup_5 : decode cX6_writeSetup 5 = .ok (.invokevirtual 20, 3) := by decide +kernel
theorem dX6_writeSetup_8 : decode cX6_writeSetup 8 = .ok (.aload_n 0, 1) := by decide +kernel
theorem dX6_writeSetup_9 : decode cX6_writeSetup 9 = .ok (.aload_n 1, 1) := by decide +kernel
theorem dX6_writeSetup_10 : decode cX6_writeSetup 10 = .ok (.invokevirtual 121, 3) := by decide +kernel
theorem dX6_writeSetup_13 : decode cX6_writeSetup 13 = .ok (.iconst 0, 1) := by decide +kernel
theorem dX6_writeSetup_14 : decode cX6_writeSetup 14 = .ok (.istore_n 3, 1) := by decide +kernel
theorem dX6_writeSetup_15 : decode cX6_writeSetup 15 = .ok (.iload_n 3, 1) := by decide +kernel
theorem dX6_writeSetup_16 : decode cX6_writeSetup 16 = .ok (.aload_n 1, 1) := by decide +kernel
theorem dX6_writeSetup_17 : decode cX6_writeSetup 17 = .ok (.invokevirtual 125, 3) := by decide +kernel
theorem dX6_writeSetup_20 : decode cX6_writeSetup 20 = .ok (.if_icmp .ge 39, 3) := by decide +kernel
theorem dX6_writeSetup_23 : decode cX6_writeSetup 23 = .ok (.aload_n 0, 1) := by decide +kernel
theorem dX6_writeSetup_24 : decode cX6_writeSetup 24 = .ok (.getfield 14, 3) := by decide +kernel
theorem dX6_writeSetup_27 : decode cX6_writeSetup 27 = .ok (.ldc 128, 2) := by decide +kernel
theorem dX6_writeSetup_29 : decode cX6_writeSetup 29 = .ok (.invokevirtual 61, 3) := by decide +kernel
theorem dX6_writeSetup_32 : decode cX6_writeSetup 32 = .ok (.aload_n 0, 1) := by decide +kernel
theorem dX6_writeSetup_33 : decode cX6_writeSetup 33 = .ok (.getfield 14, 3) := by decide +kernel
theorem dX6_writeSetup_36 : decode cX6_writeSetup 36 = .ok (.aload_n 1, 1) := by decide +kernel
theorem dX6_writeSetup_37 : decode cX6_writeSetup 37 = .ok (.iload_n 3, 1) := by decide +kernel
theorem dX6_writeSetup_38 : decode cX6_writeSetup 38 = .ok (.invokevirtual 130, 3) := by decide +kernel
theorem dX6_writeSetup_41 : decode cX6_writeSetup 41 = .ok (.invokevirtual 33, 3) := by decide +kernel
theorem dX6_writeSetup_44 : decode cX6_writeSetup 44 = .ok (.aload_n 0, 1) := by decide +kernel
theorem dX6_writeSetup_45 : decode cX6_writeSetup 45 = .ok (.getfield 14, 3) := by decide +kernel
theorem dX6_writeSetup_48 : decode cX6_writeSetup 48 = .ok (.bipush 59, 2) := by decide +kernel
theorem dX6_writeSetup_50 : decode cX6_writeSetup 50 = .ok (.invokevirtual 36, 3) := by decide +kernel
theorem dX6_writeSetup_53 : decode cX6_writeSetup 53 = .ok (.iinc 3 1, 3) := by decide +kernel
theorem dX6_writeSetup_56 : decode cX6_writeSetup 56 = .ok (.goto (-41), 3) := by decide +kernel
theorem dX6_writeSetup_59 : decode cX6_writeSetup 59 = .ok (.iconst 0, 1) := by decide +kernel
theorem dX6_writeSetup_60 : decode cX6_writeSetup 60 = .ok (.istore_n 3, 1) := by decide +kernel
theorem dX6_writeSetup_61 : decode cX6_writeSetup 61 = .ok (.iload_n 3, 1) := by decide +kernel
theorem dX6_writeSetup_62 : decode cX6_writeSetup 62 = .ok (.aload_n 1, 1) := by decide +kernel
theorem dX6_writeSetup_63 : decode cX6_writeSetup 63 = .ok (.invokevirtual 23, 3) := by decide +kernel
theorem dX6_writeSetup_66 : decode cX6_writeSetup 66 = .ok (.if_icmp .ge 16, 3) := by decide +kernel
theorem dX6_writeSetup_69 : decode cX6_writeSetup 69 = .ok (.aload_n 0, 1) := by decide +kernel
theorem dX6_writeSetup_70 : decode cX6_writeSetup 70 = .ok (.aload_n 1, 1) := by decide +kernel
theorem dX6_writeSetup_71 : decode cX6_writeSetup 71 = .ok (.aload_n 2, 1) := by decide +kernel
theorem dX6_writeSetup_72 : decode cX6_writeSetup 72 = .ok (.iload_n 3, 1) := by decide +kernel
theorem dX6_writeSetup_73 : decode cX6_writeSetup 73 = .ok (.invokevirtual 133, 3) := by decide +kernel
theorem dX6_writeSetup_76 : decode cX6_writeSetup 76 = .ok (.iinc 3 1, 3) := by decide +kernel
theorem dX6_writeSetup_79 : decode cX6_writeSetup 79 = .ok (.goto (-18), 3) := by decide +kernel
theorem dX6_writeSetup_82 : decode cX6_writeSetup 82 = .ok (.aload_n 0, 1) := by decide +kernel
theorem dX6_writeSetup_83 : decode cX6_writeSetup 83 = .ok (.getfield 14, 3) := by decide +kernel
theorem dX6_writeSetup_86 : decode cX6_writeSetup 86 = .ok (.areturn, 1) := by decide +kernel
theorem dX6_writeNumbers_0 : decode cX6_writeNumbers 0 = .ok (.aload_n 0, 1) := by decide +kernel
theorem dX6_writeNumbers_1 : decode cX6_writeNumbers 1 = .ok (.getfield 14, 3) := by decide +kernel
theorem dX6_writeNumbers_4 : decode cX6_writeNumbers 4 = .ok (.ldc 137, 2) := by decide +kernel
theorem dX6_writeNumbers_6 : decode cX6_writeNumbers 6 = .ok (.invokevirtual 61, 3) := by decide +kernel
theorem dX6_writeNumbers_9 : decode cX6_writeNumbers 9 = .ok (.aload_n 0, 1) := by decide +kernel
theorem dX6_writeNumbers_10 : decode cX6_writeNumbers 10 = .ok (.aload_n 1, 1) := by decide +kernel
theorem dX6_writeNumbers_11 : decode cX6_writeNumbers 11 = .ok (.iconst 0, 1) := by decide +kernel
theorem dX6_writeNumbers_12 : decode cX6_writeNumbers 12 = .ok (.invokevirtual 139, 3) := by decide +kernel
theorem dX6_writeNumbers_15 : decode cX6_writeNumbers 15 = .ok (.invokevirtual 80, 3) := by decide +kernel
theorem dX6_writeNumbers_18 : decode cX6_writeNumbers 18 = .ok (.aload_n 0, 1) := by decide +kernel
theorem dX6_writeNumbers_19 : decode cX6_writeNumbers 19 = .ok (.getfield 14, 3) := by decide +kernel
theorem dX6_writeNumbers_22 : decode cX6_writeNumbers 22 = .ok (.ldc 142, 2) := by decide +kernel
theorem dX6_writeNumbers_24 : decode cX6_writeNumbers 24 = .ok (.invokevirtual 61, 3) := by decide +kernel
theorem dX6_writeNumbers_27 : decode cX6_writeNumbers 27 = .ok (.iconst 0, 1) := by decide +kernel
theorem dX6_writeNumbers_28 : decode cX6_writeNumbers 28 = .ok (.istore_n 2, 1) := by decide +kernel
theorem dX6_writeNumbers_29 : decode cX6_writeNumbers 29 = .ok (.iload_n 2, 1) := by decide +kernel
theorem dX6_writeNumbers_30 : decode cX6_writeNumbers 30 = .ok (.iconst 4, 1) := by decide +kernel
theorem dX6_writeNumbers_31 : decode cX6_writeNumbers 31 = .ok (.if_icmp .ge 20, 3) := by decide +kernel
theorem dX6_writeNumbers_34 : decode cX6_writeNumbers 34 = .ok (.aload_n 0, 1) := by decide +kernel
theorem dX6_writeNumbers_35 : decode cX6_writeNumbers 35 = .ok (.aload_n 1, 1) := by decide +kernel
theorem dX6_writeNumbers_36 : decode cX6_writeNumbers 36 = .ok (.iconst 1, 1) := by decide +kernel
theorem dX6_writeNumbers_37 : decode cX6_writeNumbers 37 = .ok (.iload_n 2, 1) := by decide +kernel
theorem dX6_writeNumbers_38 : decode cX6_writeNumbers 38 = .ok (.iadd, 1) := by decide +kernel
theorem dX6_writeNumbers_39 : decode cX6_writeNumbers 39 = .ok (.invokevirtual 139, 3) := by decide +kernel
theorem dX6_writeNumbers_42 : decode cX6_writeNumbers 42 = .ok (.invokevirtual 80, 3) := by decide +kernel
theorem dX6_writeNumbers_45 : decode cX6_writeNumbers 45 = .ok (.iinc 2 1, 3) := by decide +kernel
theorem dX6_writeNumbers_48 : decode cX6_writeNumbers 48 = .ok (.goto (-19), 3) := by decide +kernel
theorem dX6_writeNumbers_51 : decode cX6_writeNumbers 51 = .ok (.aload_n 0, 1) := by decide +kernel
theorem dX6_writeNumbers_52 : decode cX6_writeNumbers 52 = .ok (.getfield 14, 3) := by decide +kernel
theorem dX6_writeNumbers_55 : decode cX6_writeNumbers 55 = .ok (.ldc 144, 2) := by decide +kernel
theorem dX6_writeNumbers_57 : decode cX6_writeNumbers 57 = .ok (.invokevirtual 61, 3) := by decide +kernel
theorem dX6_writeNumbers_60 : decode cX6_writeNumbers 60 = .ok (.aload_n 0, 1) := by decide +kernel
theorem dX6_writeNumbers_61 : decode cX6_writeNumbers 61 = .ok (.aload_n 1, 1) := by decide +kernel
theorem dX6_writeNumbers_62 : decode cX6_writeNumbers 62 = .ok (.iconst 5, 1) := by decide +kernel
theorem dX6_writeNumbers_63 : decode cX6_writeNumbers 63 = .ok (.invokevirtual 139, 3) := by decide +kernel
theorem dX6_writeNumbers_66 : decode cX6_writeNumbers 66 = .ok (.invokevirtual 80, 3) := by decide +kernel
theorem dX6_writeNumbers_69 : decode cX6_writeNumbers 69 = .ok (.aload_n 0, 1) := by decide +kernel
theorem dX6_writeNumbers_70 : decode cX6_writeNumbers 70 = .ok (.getfield 14, 3) := by decide +kernel
theorem dX6_writeNumbers_73 : decode cX6_writeNumbers 73 = .ok (.ldc 146, 2) := by decide +kernel
theorem dX6_writeNumbers_75 : decode cX6_writeNumbers 75 = .ok (.invokevirtual 61, 3) := by decide +kernel
theorem dX6_writeNumbers_78 : decode cX6_writeNumbers 78 = .ok (.aload_n 0, 1) := by decide +kernel
theorem dX6_writeNumbers_79 : decode cX6_writeNumbers 79 = .ok (.aload_n 1, 1) := by decide +kernel
theorem dX6_writeNumbers_80 : decode cX6_writeNumbers 80 = .ok (.bipush 6, 2) := by decide +kernel
theorem dX6_writeNumbers_82 : decode cX6_writeNumbers 82 = .ok (.invokevirtual 139, 3) := by decide +kernel
theorem dX6_writeNumbers_85 : decode cX6_writeNumbers 85 = .ok (.invokevirtual 80, 3) := by decide +kernel
theorem dX6_writeNumbers_88 : decode cX6_writeNumbers 88 = .ok (.aload_n 0, 1) := by decide +kernel
theorem dX6_writeNumbers_89 : decode cX6_writeNumbers 89 = .ok (.getfield 14, 3) := by decide +kernel
theorem dX6_writeNumbers_92 : decode cX6_writeNumbers 92 = .ok (.ldc 148, 2) := by decide +kernel
theorem dX6_writeNumbers_94 : decode cX6_writeNumbers 94 = .ok (.invokevirtual 61, 3) := by decide +kernel
theorem dX6_writeNumbers_97 : decode cX6_writeNumbers 97 = .ok (.aload_n 0, 1) := by decide +kernel
theorem dX6_writeNumbers_98 : decode cX6_writeNumbers 98 = .ok (.aload_n 1, 1) := by decide +kernel
theorem dX6_writeNumbers_99 : decode cX6_writeNumbers 99 = .ok (.bipush 7, 2) := by decide +kernel
theorem dX6_writeNumbers_101 : decode cX6_writeNumbers 101 = .ok (.invokevirtual 139, 3) := by decide +kernel
theorem dX6_writeNumbers_104 : decode cX6_writeNumbers 104 = .ok (.invokevirtual 80, 3) := by decide +kernel
theorem dX6_writeNumbers_107 : decode cX6_writeNumbers 107 = .ok (.aload_n 0, 1) := by decide +kernel
theorem dX6_writeNumbers_108 : decode cX6_writeNumbers 108 = .ok (.getfield 14, 3) := by decide +kernel
theorem dX6_writeNumbers_111 : decode cX6_writeNumbers 111 = .ok (.ldc 150, 2) := by decide +kernel
theorem dX6_writeNumbers_113 : decode cX6_writeNumbers 113 = .ok (.invokevirtual 61, 3) := by decide +kernel
theorem dX6_writeNumbers_116 : decode cX6_writeNumbers 116 = .ok (.aload_n 0, 1) := by decide +kernel
theorem dX6_writeNumbers_117 : decode cX6_writeNumbers 117 = .ok (.aload_n 1, 1) := by decide +kernel
theorem dX6_writeNumbers_118 : decode cX6_writeNumbers 118 = .ok (.bipush 8, 2) := by decide +kernel
theorem dX6_writeNumbers_120 : decode cX6_writeNumbers 120 = .ok (.invokevirtual 139, 3) := by decide +kernel
theorem dX6_writeNumbers_123 : decode cX6_writeNumbers 123 = .ok (.invokevirtual 80, 3) := by decide +kernel
theorem dX6_writeNumbers_126 : decode cX6_writeNumbers 126 = .ok (.aload_n 0, 1) := by decide +kernel
theorem dX6_writeNumbers_127 : decode cX6_writeNumbers 127 = .ok (.getfield 14, 3) := by decide +kernel
theorem dX6_writeNumbers_130 : decode cX6_writeNumbers 130 = .ok (.ldc 152, 2) := by decide +kernel
theorem dX6_writeNumbers_132 : decode cX6_writeNumbers 132 = .ok (.invokevirtual 61, 3) := by decide +kernel
theorem dX6_writeNumbers_135 : decode cX6_writeNumbers 135 = .ok (.aload_n 0, 1) := by decide +kernel
theorem dX6_writeNumbers_136 : decode cX6_writeNumbers 136 = .ok (.aload_n 1, 1) := by decide +kernel
theorem dX6_writeNumbers_137 : decode cX6_writeNumbers 137 = .ok (.bipush 9, 2) := by decide +kernel
theorem dX6_writeNumbers_139 : decode cX6_writeNumbers 139 = .ok (.invokevirtual 139, 3) := by decide +kernel
theorem dX6_writeNumbers_142 : decode cX6_writeNumbers 142 = .ok (.invokevirtual 80, 3) := by decide +kernel
theorem dX6_writeNumbers_145 : decode cX6_writeNumbers 145 = .ok (.aload_n 0, 1) := by decide +kernel
theorem dX6_writeNumbers_146 : decode cX6_writeNumbers 146 = .ok (.getfield 14, 3) := by decide +kernel
theorem dX6_writeNumbers_149 : decode cX6_writeNumbers 149 = .ok (.bipush 59, 2) := by decide +kernel
theorem dX6_writeNumbers_151 : decode cX6_writeNumbers 151 = .ok (.invokevirtual 36, 3) := by decide +kernel
theorem dX6_writeNumbers_154 : decode cX6_writeNumbers 154 = .ok (.return_, 1) := by decide +kernel
theorem dX6_writePerson_0 : decode cX6_writePerson 0 = .ok (.aload_n 2, 1) := by decide +kernel
theorem dX6_writePerson_1 : decode cX6_writePerson 1 = .ok (.iload_n 3, 1) := by decide +kernel
theorem dX6_writePerson_2 : decode cX6_writePerson 2 = .ok (.invokevirtual 154, 3) := by decide +kernel
theorem dX6_writePerson_5 : decode cX6_writePerson 5 = .ok (.istore 4, 2) := by decide +kernel
theorem dX6_writePerson_7 : decode cX6_writePerson 7 = .ok (.aload_n 0, 1) := by decide +kernel
theorem dX6_writePerson_8 : decode cX6_writePerson 8 = .ok (.getfield 14, 3) := by decide +kernel
theorem dX6_writePerson_11 : decode cX6_writePerson 11 = .ok (.ldc 157, 2) := by decide +kernel
theorem dX6_writePerson_13 : decode cX6_writePerson 13 = .ok (.invokevirtual 61, 3) := by decide +kernel
theorem dX6_writePerson_16 : decode cX6_writePerson 16 = .ok (.aload_n 0, 1) := by decide +kernel
theorem dX6_writePerson_17 : decode cX6_writePerson 17 = .ok (.getfield 14, 3) := by decide +kernel
theorem dX6_writePerson_20 : decode cX6_writePerson 20 = .ok (.aload_n 1, 1) := by decide +kernel
theorem dX6_writePerson_21 : decode cX6_writePerson 21 = .ok (.iload_n 3, 1) := by decide +kernel
theorem dX6_writePerson_22 : decode cX6_writePerson 22 = .ok (.invokevirtual 29, 3) := by decide +kernel
theorem dX6_writePerson_25 : decode cX6_writePerson 25 = .ok (.invokevirtual 33, 3) := by decide +kernel
theorem dX6_writePerson_28 : decode cX6_writePerson 28 = .ok (.iload 4, 2) := by decide +kernel
theorem dX6_writePerson_30 : decode cX6_writePerson 30 = .ok (.bipush (-2), 2) := by decide +kernel
theorem dX6_writePerson_32 : decode cX6_writePerson 32 = .ok (.if_icmp .eq 25, 3) := by decide +kernel
theorem dX6_writePerson_35 : decode cX6_writePerson 35 = .ok (.aload_n 0, 1) := by decide +kernel
theorem dX6_writePerson_36 : decode cX6_writePerson 36 = .ok (.getfield 14, 3) := by decide +kernel
theorem dX6_writePerson_39 : decode cX6_writePerson 39 = .ok (.ldc 159, 2) := by decide +kernel
theorem dX6_writePerson_41 : decode cX6_writePerson 41 = .ok (.invokevirtual 61, 3) := by decide +kernel
theorem dX6_writePerson_44 : decode cX6_writePerson 44 = .ok (.aload_n 0, 1) := by decide +kernel
theorem dX6_writePerson_45 : decode cX6_writePerson 45 = .ok (.getfield 14, 3) := by decide +kernel
theorem dX6_writePerson_48 : decode cX6_writePerson 48 = .ok (.aload_n 1, 1) := by decide +kernel
theorem dX6_writePerson_49 : decode cX6_writePerson 49 = .ok (.iload 4, 2) := by decide +kernel
theorem dX6_writePerson_51 : decode cX6_writePerson 51 = .ok (.invokevirtual 130, 3) := by decide +kernel
theorem dX6_writePerson_54 : decode cX6_writePerson 54 = .ok (.invokevirtual 33, 3) := by decide +kernel
theorem dX6_writePerson_57 : decode cX6_writePerson 57 = .ok (.aload_n 0, 1) := by decide +kernel
theorem dX6_writePerson_58 : decode cX6_writePerson 58 = .ok (.getfield 14, 3) := by decide +kernel
theorem dX6_writePerson_61 : decode cX6_writePerson 61 = .ok (.bipush 59, 2) := by decide +kernel
theorem dX6_writePerson_63 : decode cX6_writePerson 63 = .ok (.invokevirtual 36, 3) := by decide +kernel
theorem dX6_writePerson_66 : decode cX6_writePerson 66 = .ok (.return_, 1) := by decide +kernel
theorem dX6_writeNumber_0 : decode cX6_writeNumber 0 = .ok (.aload_n 0, 1) := by decide +kernel
theorem dX6_writeNumber_1 : decode cX6_writeNumber 1 = .ok (.getfield 14, 3) := by decide +kernel
theorem dX6_writeNumber_4 : decode cX6_writeNumber 4 = .ok (.bipush 32, 2) := by decide +kernel
theorem dX6_writeNumber_6 : decode cX6_writeNumber 6 = .ok (.invokevirtual 36, 3) := by decide +kernel
theorem dX6_writeNumber_9 : decode cX6_writeNumber 9 = .ok (.aload_n 0, 1) := by decide +kernel
theorem dX6_writeNumber_10 : decode cX6_writeNumber 10 = .ok (.getfield 14, 3) := by decide +kernel
theorem dX6_writeNumber_13 : decode cX6_writeNumber 13 = .ok (.iload_n 1, 1) := by decide +kernel
theorem dX6_writeNumber_14 : decode cX6_writeNumber 14 = .ok (.invokevirtual 103, 3) := by decide +kernel
theorem dX6_writeNumber_17 : decode cX6_writeNumber 17 = .ok (.return_, 1) := by decide +kernel
theorem dX7_init_0 : decode cX7_init 0 = .ok (.aload_n 0, 1) := by decide +kernel
theorem dX7_init_1 : decode cX7_init 1 = .ok (.invokespecial 3, 3) := by decide +kernel
theorem dX7_init_4 : decode cX7_init 4 = .ok (.aload_n 0, 1) := by decide +kernel
theorem dX7_init_5 : decode cX7_init 5 = .ok (.bipush 10, 2) := by decide +kernel
theorem dX7_init_7 : decode cX7_init 7 = .ok (.newarray .int, 2) := by decide +kernel
theorem dX7_init_9 : decode cX7_init 9 = .ok (.putfield 9, 3) := by decide +kernel
theorem dX7_init_12 : decode cX7_init 12 = .ok (.aload_n 0, 1) := by decide +kernel
theorem dX7_init_13 : decode cX7_init 13 = .ok (.bipush 6, 2) := by decide +kernel
theorem dX7_init_15 : decode cX7_init 15 = .ok (.newarray .int, 2) := by decide +kernel
theorem dX7_init_17 : decode cX7_init 17 = .ok (.putfield 15, 3) := by decide +kernel
theorem dX7_init_20 : decode cX7_init 20 = .ok (.aload_n 0, 1) := by decide +kernel
theorem dX7_init_21 : decode cX7_init 21 = .ok (.bipush 20, 2) := by decide +kernel
theorem dX7_init_23 : decode cX7_init 23 = .ok (.newarray .int, 2) := by decide +kernel
theorem dX7_init_25 : decode cX7_init 25 = .ok (.putfield 18, 3) := by decide +kernel
theorem dX7_init_28 : decode cX7_init 28 = .ok (.aload_n 0, 1) := by decide +kernel
theorem dX7_init_29 : decode cX7_init 29 = .ok (.bipush 20, 2) := by decide +kernel
theorem dX7_init_31 : decode cX7_init 31 = .ok (.newarray .int, 2) := by decide +kernel
theorem dX7_init_33 : decode cX7_init 33 = .ok (.putfield 21, 3) := by decide +kernel
theorem dX7_init_36 : decode cX7_init 36 = .ok (.return_, 1) := by decide +kernel
theorem dX7_makeFirstVillage_0 : decode cX7_makeFirstVillage 0 = .ok (.aload_n 0, 1) := by decide +kernel
theorem dX7_makeFirstVillage_1 : decode cX7_makeFirstVillage 1 = .ok (.invokevirtual 24, 3) := by decide +kernel
theorem dX7_makeFirstVillage_4 : decode cX7_makeFirstVillage 4 = .ok (.aload_n 0, 1) := by decide +kernel
theorem dX7_makeFirstVillage_5 : decode cX7_makeFirstVillage 5 = .ok (.iconst 0, 1) := by decide +kernel
theorem dX7_makeFirstVillage_6 : decode cX7_makeFirstVillage 6 = .ok (.bipush 90, 2) := by decide +kernel
theorem dX7_makeFirstVillage_8 : decode cX7_makeFirstVillage 8 = .ok (.invokevirtual 27, 3) := by decide +kernel
theorem dX7_makeFirstVillage_11 : decode cX7_makeFirstVillage 11 = .ok (.iconst 0, 1) := by decide +kernel
theorem dX7_makeFirstVillage_12 : decode cX7_makeFirstVillage 12 = .ok (.istore_n 1, 1) := by decide +kernel
theorem dX7_makeFirstVillage_13 : decode cX7_makeFirstVillage 13 = .ok (.iload_n 1, 1) := by decide +kernel
theorem dX7_makeFirstVillage_14 : decode cX7_makeFirstVillage 14 = .ok (.iconst 4, 1) := by decide +kernel
theorem dX7_makeFirstVillage_15 : decode cX7_makeFirstVillage 15 = .ok (.if_icmp .ge 18, 3) := by decide +kernel
theorem dX7_makeFirstVillage_18 : decode cX7_makeFirstVillage 18 = .ok (.aload_n 0, 1) := by decide +kernel
theorem dX7_makeFirstVillage_19 : decode cX7_makeFirstVillage 19 = .ok (.iconst 1, 1) := by decide +kernel
theorem dX7_makeFirstVillage_20 : decode cX7_makeFirstVillage 20 = .ok (.iload_n 1, 1) := by decide +kernel
theorem dX7_makeFirstVillage_21 : decode cX7_makeFirstVillage 21 = .ok (.iadd, 1) := by decide +kernel
theorem dX7_makeFirstVillage_22 : decode cX7_makeFirstVillage 22 = .ok (.bipush 50, 2) := by decide +kernel
theorem dX7_makeFirstVillage_24 : decode cX7_makeFirstVillage 24 = .ok (.invokevirtual 27, 3) := by decide +kernel
theorem dX7_makeFirstVillage_27 : decode cX7_makeFirstVillage 27 = .ok (.iinc 1 1, 3) := by decide +kernel
theorem dX7_makeFirstVillage_30 : decode cX7_makeFirstVillage 30 = .ok (.goto (-17), 3) := by decide +kernel
theorem dX7_makeFirstVillage_33 : decode cX7_makeFirstVillage 33 = .ok (.aload_n 0, 1) := by decide +kernel
theorem dX7_makeFirstVillage_34 : decode cX7_makeFirstVillage 34 = .ok (.iconst 5, 1) := by decide +kernel
theorem dX7_makeFirstVillage_35 : decode cX7_makeFirstVillage 35 = .ok (.iconst 1, 1) := by decide +kernel
theorem dX7_makeFirstVillage_36 : decode cX7_makeFirstVillage 36 = .ok (.invokevirtual 27, 3) := by decide +kernel
theorem dX7_makeFirstVillage_39 : decode cX7_makeFirstVillage 39 = .ok (.aload_n 0, 1) := by decide +kernel
theorem dX7_makeFirstVillage_40 : decode cX7_makeFirstVillage 40 = .ok (.bipush 6, 2) := by decide +kernel
theorem dX7_makeFirstVillage_42 : decode cX7_makeFirstVillage 42 = .ok (.iconst 1, 1) := by decide +kernel
theorem dX7_makeFirstVillage_43 : decode cX7_makeFirstVillage 43 = .ok (.invokevirtual 27, 3) := by decide +kernel
theorem dX7_makeFirstVillage_46 : decode cX7_makeFirstVillage 46 = .ok (.aload_n 0, 1) := by decide +kernel
theorem dX7_makeFirstVillage_47 : decode cX7_makeFirstVillage 47 = .ok (.bipush 7, 2) := by decide +kernel
theorem dX7_makeFirstVillage_49 : decode cX7_makeFirstVillage 49 = .ok (.iconst 1, 1) := by decide +kernel
theorem dX7_makeFirstVillage_50 : decode cX7_makeFirstVillage 50 = .ok (.invokevirtual 27, 3) := by decide +kernel
theorem dX7_makeFirstVillage_53 : decode cX7_makeFirstVillage 53 = .ok (.aload_n 0, 1) := by decide +kernel
theorem dX7_makeFirstVillage_54 : decode cX7_makeFirstVillage 54 = .ok (.bipush 8, 2) := by decide +kernel
theorem dX7_makeFirstVillage_56 : decode cX7_makeFirstVillage 56 = .ok (.iconst 3, 1) := by decide +kernel
theorem dX7_makeFirstVillage_57 : decode cX7_makeFirstVillage 57 = .ok (.invokevirtual 27, 3) := by decide +kernel
theorem dX7_makeFirstVillage_60 : decode cX7_makeFirstVillage 60 = .ok (.aload_n 0, 1) := by decide +kernel
theorem dX7_makeFirstVillage_61 : decode cX7_makeFirstVillage 61 = .ok (.bipush 9, 2) := by decide +kernel
theorem dX7_makeFirstVillage_63 : decode cX7_makeFirstVillage 63 = .ok (.iconst 1, 1) := by decide +kernel
theorem dX7_makeFirstVillage_64 : decode cX7_makeFirstVillage 64 = .ok (.invokevirtual 27, 3) := by decide +kernel
theorem dX7_makeFirstVillage_67 : decode cX7_makeFirstVillage 67 = .ok (.aload_n 0, 1) := by decide +kernel
theorem dX7_makeFirstVillage_68 : decode cX7_makeFirstVillage 68 = .ok (.ldc 31, 2) := by decide +kernel
theorem dX7_makeFirstVillage_70 : decode cX7_makeFirstVillage 70 = .ok (.bipush (-2), 2) := by decide +kernel
theorem dX7_makeFirstVillage_72 : decode cX7_makeFirstVillage 72 = .ok (.invokevirtual 32, 3) := by decide +kernel
theorem dX7_makeFirstVillage_75 : decode cX7_makeFirstVillage 75 = .ok (.aload_n 0, 1) := by decide +kernel
theorem dX7_makeFirstVillage_76 : decode cX7_makeFirstVillage 76 = .ok (.ldc 35, 2) := by decide +kernel
theorem dX7_makeFirstVillage_78 : decode cX7_makeFirstVillage 78 = .ok (.bipush (-2), 2) := by decide +kernel
theorem dX7_makeFirstVillage_80 : decode cX7_makeFirstVillage 80 = .ok (.invokevirtual 32, 3) := by decide +kernel
theorem dX7_makeFirstVillage_83 : decode cX7_makeFirstVillage 83 = .ok (.return_, 1) := by decide +kernel
theorem dX7_clear_0 : decode cX7_clear 0 = .ok (.aload_n 0, 1) := by decide +kernel
theorem dX7_clear_1 : decode cX7_clear 1 = .ok (.iconst 0, 1) := by decide +kernel
theorem dX7_clear_2 : decode cX7_clear 2 = .ok (.putfield 36, 3) := by decide +kernel
theorem dX7_clear_5 : decode cX7_clear 5 = .ok (.aload_n 0, 1) := by decide +kernel
theorem dX7_clear_6 : decode cX7_clear 6 = .ok (.iconst 0, 1) := by decide +kernel
theorem dX7_clear_7 : decode cX7_clear 7 = .ok (.putfield 40, 3) := by decide +kernel
theorem dX7_clear_10 : decode cX7_clear 10 = .ok (.return_, 1) := by decide +kernel
theorem dX7_copyFrom_0 : decode cX7_copyFrom 0 = .ok (.aload_n 1, 1) := by decide +kernel
theorem dX7_copyFrom_1 : decode cX7_copyFrom 1 = .ok (.getfield 9, 3) := by decide +kernel
theorem dX7_copyFrom_4 : decode cX7_copyFrom 4 = .ok (.aload_n 0, 1) := by decide +kernel
theorem dX7_copyFrom_5 : decode cX7_copyFrom 5 = .ok (.getfield 9, 3) := by decide +kernel
theorem dX7_copyFrom_8 : decode cX7_copyFrom 8 = .ok (.invokestatic 43, 3) := by decide +kernel
theorem dX7_copyFrom_11 : decode cX7_copyFrom 11 = .ok (.aload_n 1, 1) := by decide +kernel
theorem dX7_copyFrom_12 : decode cX7_copyFrom 12 = .ok (.getfield 15, 3) := by decide +kernel
theorem dX7_copyFrom_15 : decode cX7_copyFrom 15 = .ok (.aload_n 0, 1) := by decide +kernel
theorem dX7_copyFrom_16 : decode cX7_copyFrom 16 = .ok (.getfield 15, 3) := by decide +kernel
theorem dX7_copyFrom_19 : decode cX7_copyFrom 19 = .ok (.invokestatic 43, 3) := by decide +kernel
theorem dX7_copyFrom_22 : decode cX7_copyFrom 22 = .ok (.aload_n 1, 1) := by decide +kernel
theorem dX7_copyFrom_23 : decode cX7_copyFrom 23 = .ok (.getfield 18, 3) := by decide +kernel
theorem dX7_copyFrom_26 : decode cX7_copyFrom 26 = .ok (.aload_n 0, 1) := by decide +kernel
theorem dX7_copyFrom_27 : decode cX7_copyFrom 27 = .ok (.getfield 18, 3) := by decide +kernel
theorem dX7_copyFrom_30 : decode cX7_copyFrom 30 = .ok (.invokestatic 43, 3) := by decide +kernel
theorem dX7_copyFrom_33 : decode cX7_copyFrom 33 = .ok (.aload_n 1, 1) := by decide +kernel
theorem dX7_copyFrom_34 : decode cX7_copyFrom 34 = .ok (.getfield 21, 3) := by decide +kernel
theorem dX7_copyFrom_37 : decode cX7_copyFrom 37 = .ok (.aload_n 0, 1) := by decide +kernel
theorem dX7_copyFrom_38 : decode cX7_copyFrom 38 = .ok (.getfield 21, 3) := by decide +kernel
theorem dX7_copyFrom_41 : decode cX7_copyFrom 41 = .ok (.invokestatic 43, 3) := by decide +kernel
theorem dX7_copyFrom_44 : decode cX7_copyFrom 44 = .ok (.aload_n 0, 1) := by decide +kernel
theorem dX7_copyFrom_45 : decode cX7_copyFrom 45 = .ok (.aload_n 1, 1) := by decide +kernel
theorem dX7_copyFrom_46 : decode cX7_copyFrom 46 = .ok (.getfield 36, 3) := by decide +kernel
theorem dX7_copyFrom_49 : decode cX7_copyFrom 49 = .ok (.putfield 36, 3) := by decide +kernel
theorem dX7_copyFrom_52 : decode cX7_copyFrom 52 = .ok (.aload_n 0, 1) := by decide +kernel
theorem dX7_copyFrom_53 : decode cX7_copyFrom 53 = .ok (.aload_n 1, 1) := by decide +kernel
theorem dX7_copyFrom_54 : decode cX7_copyFrom 54 = .ok (.getfield 40, 3) := by decide +kernel
theorem dX7_copyFrom_57 : decode cX7_copyFrom 57 = .ok (.putfield 40, 3) := by decide +kernel
theorem dX7_copyFrom_60 : decode cX7_copyFrom 60 = .ok (.return_, 1) := by decide +kernel
theorem dX7_boats_0 : decode cX7_boats 0 = .ok (.aload_n 0, 1) := by decide +kernel
theorem dX7_boats_1 : decode cX7_boats 1 = .ok (.getfield 36, 3) := by decide +kernel
theorem dX7_boats_4 : decode cX7_boats 4 = .ok (.ireturn, 1) := by decide +kernel
theorem dX7_people_0 : decode cX7_people 0 = .ok (.aload_n 0, 1) := by decide +kernel
theorem dX7_people_1 : decode cX7_people 1 = .ok (.getfield 40, 3) := by decide +kernel
theorem dX7_people_4 : decode cX7_people 4 = .ok (.ireturn, 1) := by decide +kernel
theorem dX7_numberOf_0 : decode cX7_numberOf 0 = .ok (.aload_n 0, 1) := by decide +kernel
theorem dX7_numberOf_1 : decode cX7_numberOf 1 = .ok (.getfield 9, 3) := by decide +kernel
theorem dX7_numberOf_4 : decode cX7_numberOf 4 = .ok (.iload_n 1, 1) := by decide +kernel
theorem dX7_numberOf_5 : decode cX7_numberOf 5 = .ok (.iconst 0, 1) := by decide +kernel
theorem dX7_numberOf_6 : decode cX7_numberOf 6 = .ok (.invokestatic 47, 3) := by decide +kernel
theorem dX7_numberOf_9 : decode cX7_numberOf 9 = .ok (.ireturn, 1) := by decide +kernel
theorem dX7_setNumber_0 : decode cX7_setNumber 0 = .ok (.aload_n 0, 1) := by decide +kernel
theorem dX7_setNumber_1 : decode cX7_setNumber 1 = .ok (.getfield 9, 3) := by decide +kernel
theorem dX7_setNumber_4 : decode cX7_setNumber 4 = .ok (.iload_n 1, 1) := by decide +kernel
theorem dX7_setNumber_5 : decode cX7_setNumber 5 = .ok (.iload_n 2, 1) := by decide +kernel
theorem dX7_setNumber_6 : decode cX7_setNumber 6 = .ok (.invokestatic 51, 3) := by decide +kernel
theorem dX7_setNumber_9 : decode cX7_setNumber 9 = .ok (.return_, 1) := by decide +kernel
theorem dX7_addBoat_0 : decode cX7_addBoat 0 = .ok (.aload_n 0, 1) := by decide +kernel
theorem dX7_addBoat_1 : decode cX7_addBoat 1 = .ok (.getfield 36, 3) := by decide +kernel
theorem dX7_addBoat_4 : decode cX7_addBoat 4 = .ok (.bipush 6, 2) := by decide +kernel
theorem dX7_addBoat_6 : decode cX7_addBoat 6 = .ok (.if_icmp .lt 4, 3) := by decide +kernel
theorem dX7_addBoat_9 : decode cX7_addBoat 9 = .ok (.return_, 1) := by decide +kernel
theorem dX7_addBoat_10 : decode cX7_addBoat 10 = .ok (.aload_n 0, 1) := by decide +kernel
theorem dX7_addBoat_11 : decode cX7_addBoat 11 = .ok (.getfield 15, 3) := by decide +kernel
theorem dX7_addBoat_14 : decode cX7_addBoat 14 = .ok (.aload_n 0, 1) := by decide +kernel
theorem dX7_addBoat_15 : decode cX7_addBoat 15 = .ok (.getfield 36, 3) := by decide +kernel
theorem dX7_addBoat_18 : decode cX7_addBoat 18 = .ok (.iload_n 1, 1) := by decide +kernel
theorem dX7_addBoat_19 : decode cX7_addBoat 19 = .ok (.invokestatic 51, 3) := by decide +kernel
theorem dX7_addBoat_22 : decode cX7_addBoat 22 = .ok (.aload_n 0, 1) := by decide +kernel
theorem dX7_addBoat_23 : decode cX7_addBoat 23 = .ok (.dup, 1) := by decide +kernel
theorem dX7_addBoat_24 : decode cX7_addBoat 24 = .ok (.getfield 36, 3) := by decide +kernel
theorem dX7_addBoat_27 : decode cX7_addBoat 27 = .ok (.iconst 1, 1) := by decide +kernel
theorem dX7_addBoat_28 : decode cX7_addBoat 28 = .ok (.iadd, 1) := by decide +kernel
theorem dX7_addBoat_29 : decode cX7_addBoat 29 = .ok (.putfield 36, 3) := by decide +kernel
theorem dX7_addBoat_32 : decode cX7_addBoat 32 = .ok (.return_, 1) := by decide +kernel
theorem dX7_addPerson_0 : decode cX7_addPerson 0 = .ok (.aload_n 0, 1) := by decide +kernel
theorem dX7_addPerson_1 : decode cX7_addPerson 1 = .ok (.getfield 40, 3) := by decide +kernel
theorem dX7_addPerson_4 : decode cX7_addPerson 4 = .ok (.bipush 20, 2) := by decide +kernel
theorem dX7_addPerson_6 : decode cX7_addPerson 6 = .ok (.if_icmp .lt 4, 3) := by decide +kernel
theorem dX7_addPerson_9 : decode cX7_addPerson 9 = .ok (.return_, 1) := by decide +kernel
theorem dX7_addPerson_10 : decode cX7_addPerson 10 = .ok (.aload_n 0, 1) := by decide +kernel
theorem dX7_addPerson_11 : decode cX7_addPerson 11 = .ok (.getfield 18, 3) := by decide +kernel
theorem dX7_addPerson_14 : decode cX7_addPerson 14 = .ok (.aload_n 0, 1) := by decide +kernel
theorem dX7_addPerson_15 : decode cX7_addPerson 15 = .ok (.getfield 40, 3) := by decide +kernel
theorem dX7_addPerson_18 : decode cX7_addPerson 18 = .ok (.iload_n 1, 1) := by decide +kernel
theorem dX7_addPerson_19 : decode cX7_addPerson 19 = .ok (.invokestatic 51, 3) := by decide +kernel
theorem dX7_addPerson_22 : decode cX7_addPerson 22 = .ok (.aload_n 0, 1) := by decide +kernel
theorem dX7_addPerson_23 : decode cX7_addPerson 23 = .ok (.getfield 21, 3) := by decide +kernel
theorem dX7_addPerson_26 : decode cX7_addPerson 26 = .ok (.aload_n 0, 1) := by decide +kernel
theorem dX7_addPerson_27 : decode cX7_addPerson 27 = .ok (.getfield 40, 3) := by decide +kernel
theorem dX7_addPerson_30 : decode cX7_addPerson 30 = .ok (.iload_n 2, 1) := by decide +kernel
theorem dX7_addPerson_31 : decode cX7_addPerson 31 = .ok (.invokestatic 51, 3) := by decide +kernel
theorem dX7_addPerson_34 : decode cX7_addPerson 34 = .ok (.aload_n 0, 1) := by decide +kernel
theorem dX7_addPerson_35 : decode cX7_addPerson 35 = .ok (.dup, 1) := by decide +kernel
theorem dX7_addPerson_36 : decode cX7_addPerson 36 = .ok (.getfield 40, 3) := by decide +kernel
theorem dX7_addPerson_39 : decode cX7_addPerson 39 = .ok (.iconst 1, 1) := by decide +kernel
theorem dX7_addPerson_40 : decode cX7_addPerson 40 = .ok (.iadd, 1) := by decide +kernel
theorem dX7_addPerson_41 : decode cX7_addPerson 41 = .ok (.putfield 40, 3) := by decide +kernel
theorem dX7_addPerson_44 : decode cX7_addPerson 44 = .ok (.return_, 1) := by decide +kernel
theorem dX7_boatName_0 : decode cX7_boatName 0 = .ok (.aload_n 0, 1) := by decide +kernel
theorem dX7_boatName_1 : decode cX7_boatName 1 = .ok (.getfield 15, 3) := by decide +kernel
theorem dX7_boatName_4 : decode cX7_boatName 4 = .ok (.iload_n 1, 1) := by decide +kernel
theorem dX7_boatName_5 : decode cX7_boatName 5 = .ok (.iconst 0, 1) := by decide +kernel
theorem dX7_boatName_6 : decode cX7_boatName 6 = .ok (.invokestatic 47, 3) := by decide +kernel
theorem dX7_boatName_9 : decode cX7_boatName 9 = .ok (.ireturn, 1) := by decide +kernel
theorem dX7_personName_0 : decode cX7_personName 0 = .ok (.aload_n 0, 1) := by decide +kernel
theorem dX7_personName_1 : decode cX7_personName 1 = .ok (.getfield 18, 3) := by decide +kernel
theorem dX7_personName_4 : decode cX7_personName 4 = .ok (.iload_n 1, 1) := by decide +kernel
theorem dX7_personName_5 : decode cX7_personName 5 = .ok (.iconst 0, 1) := by decide +kernel
theorem dX7_personName_6 : decode cX7_personName 6 = .ok (.invokestatic 47, 3) := by decide +kernel
theorem dX7_personName_9 : decode cX7_personName 9 = .ok (.ireturn, 1) := by decide +kernel
theorem dX7_firstBoatOf_0 : decode cX7_firstBoatOf 0 = .ok (.aload_n 0, 1) := by decide +kernel
theorem dX7_firstBoatOf_1 : decode cX7_firstBoatOf 1 = .ok (.getfield 21, 3) := by decide +kernel
theorem dX7_firstBoatOf_4 : decode cX7_firstBoatOf 4 = .ok (.iload_n 1, 1) := by decide +kernel
theorem dX7_firstBoatOf_5 : decode cX7_firstBoatOf 5 = .ok (.bipush (-2), 2) := by decide +kernel
theorem dX7_firstBoatOf_7 : decode cX7_firstBoatOf 7 = .ok (.invokestatic 47, 3) := by decide +kernel
theorem dX7_firstBoatOf_10 : decode cX7_firstBoatOf 10 = .ok (.ireturn, 1) := by decide +kernel
theorem dX7_boatNamed_0 : decode cX7_boatNamed 0 = .ok (.aload_n 0, 1) := by decide +kernel
theorem dX7_boatNamed_1 : decode cX7_boatNamed 1 = .ok (.getfield 15, 3) := by decide +kernel
theorem dX7_boatNamed_4 : decode cX7_boatNamed 4 = .ok (.aload_n 0, 1) := by decide +kernel
theorem dX7_boatNamed_5 : decode cX7_boatNamed 5 = .ok (.getfield 36, 3) := by decide +kernel
theorem dX7_boatNamed_8 : decode cX7_boatNamed 8 = .ok (.iload_n 1, 1) := by decide +kernel
theorem dX7_boatNamed_9 : decode cX7_boatNamed 9 = .ok (.invokestatic 55, 3) := by decide +kernel
theorem dX7_boatNamed_12 : decode cX7_boatNamed 12 = .ok (.ireturn, 1) := by decide +kernel
theorem dX7_personNamed_0 : decode cX7_personNamed 0 = .ok (.aload_n 0, 1) := by decide +kernel
theorem dX7_personNamed_1 : decode cX7_personNamed 1 = .ok (.getfield 18, 3) := by decide +kernel
theorem dX7_personNamed_4 : decode cX7_personNamed 4 = .ok (.aload_n 0, 1) := by decide +kernel
theorem dX7_personNamed_5 : decode cX7_personNamed 5 = .ok (.getfield 40, 3) := by decide +kernel
theorem dX7_personNamed_8 : decode cX7_personNamed 8 = .ok (.iload_n 1, 1) := by decide +kernel
theorem dX7_personNamed_9 : decode cX7_personNamed 9 = .ok (.invokestatic 55, 3) := by decide +kernel
theorem dX7_personNamed_12 : decode cX7_personNamed 12 = .ok (.ireturn, 1) := by decide +kernel
theorem dX7_find_0 : decode cX7_find 0 = .ok (.iconst 0, 1) := by decide +kernel
theorem dX7_find_1 : decode cX7_find 1 = .ok (.istore_n 3, 1) := by decide +kernel
theorem dX7_find_2 : decode cX7_find 2 = .ok (.iload_n 3, 1) := by decide +kernel
theorem dX7_find_3 : decode cX7_find 3 = .ok (.iload_n 1, 1) := by decide +kernel
theorem dX7_find_4 : decode cX7_find 4 = .ok (.if_icmp .ge 24, 3) := by decide +kernel
theorem dX7_find_7 : decode cX7_find 7 = .ok (.iload_n 3, 1) := by decide +kernel
theorem dX7_find_8 : decode cX7_find 8 = .ok (.aload_n 0, 1) := by decide +kernel
theorem dX7_find_9 : decode cX7_find 9 = .ok (.arraylength, 1) := by decide +kernel
theorem dX7_find_10 : decode cX7_find 10 = .ok (.if_icmp .ge 18, 3) := by decide +kernel
theorem dX7_find_13 : decode cX7_find 13 = .ok (.aload_n 0, 1) := by decide +kernel
theorem dX7_find_14 : decode cX7_find 14 = .ok (.iload_n 3, 1) := by decide +kernel
theorem dX7_find_15 : decode cX7_find 15 = .ok (.iaload, 1) := by decide +kernel
theorem dX7_find_16 : decode cX7_find 16 = .ok (.iload_n 2, 1) := by decide +kernel
theorem dX7_find_17 : decode cX7_find 17 = .ok (.if_icmp .ne 5, 3) := by decide +kernel
theorem dX7_find_20 : decode cX7_find 20 = .ok (.iload_n 3, 1) := by decide +kernel
theorem dX7_find_21 : decode cX7_find 21 = .ok (.ireturn, 1) := by decide +kernel
theorem dX7_find_22 : decode cX7_find 22 = .ok (.iinc 3 1, 3) := by decide +kernel
theorem dX7_find_25 : decode cX7_find 25 = .ok (.goto (-23), 3) := by decide +kernel
theorem dX7_find_28 : decode cX7_find 28 = .ok (.bipush (-2), 2) := by decide +kernel
theorem dX7_find_30 : decode cX7_find 30 = .ok (.ireturn, 1) := by decide +kernel
theorem dX8_init_0 : decode cX8_init 0 = .ok (.aload_n 0, 1) := by decide +kernel
theorem dX8_init_1 : decode cX8_init 1 = .ok (.invokespecial 3, 3) := by decide +kernel
theorem dX8_init_4 : decode cX8_init 4 = .ok (.aload_n 0, 1) := by decide +kernel
theorem dX8_init_5 : decode cX8_init 5 = .ok (.new 9, 3) := by decide +kernel
theorem dX8_init_8 : decode cX8_init 8 = .ok (.dup, 1) := by decide +kernel
theorem dX8_init_9 : decode cX8_init 9 = .ok (.invokespecial 11, 3) := by decide +kernel
theorem dX8_init_12 : decode cX8_init 12 = .ok (.putfield 12, 3) := by decide +kernel
theorem dX8_init_15 : decode cX8_init 15 = .ok (.aload_n 0, 1) := by decide +kernel
theorem dX8_init_16 : decode cX8_init 16 = .ok (.new 18, 3) := by decide +kernel
theorem dX8_init_19 : decode cX8_init 19 = .ok (.dup, 1) := by decide +kernel
theorem dX8_init_20 : decode cX8_init 20 = .ok (.invokespecial 20, 3) := by decide +kernel
theorem dX8_init_23 : decode cX8_init 23 = .ok (.putfield 21, 3) := by decide +kernel
theorem dX8_init_26 : decode cX8_init 26 = .ok (.aload_n 0, 1) := by decide +kernel
theorem dX8_init_27 : decode cX8_init 27 = .ok (.new 25, 3) := by decide +kernel
theorem dX8_init_30 : decode cX8_init 30 = .ok (.dup, 1) := by decide +kernel
theorem dX8_init_31 : decode cX8_init 31 = .ok (.bipush 8, 2) := by decide +kernel
theorem dX8_init_33 : decode cX8_init 33 = .ok (.invokespecial 27, 3) := by decide +kernel
theorem dX8_init_36 : decode cX8_init 36 = .ok (.putfield 30, 3) := by decide +kernel
theorem dX8_init_39 : decode cX8_init 39 = .ok (.aload_n 0, 1) := by decide +kernel
theorem dX8_init_40 : decode cX8_init 40 = .ok (.new 25, 3) := by decide +kernel
theorem dX8_init_43 : decode cX8_init 43 = .ok (.dup, 1) := by decide +kernel
theorem dX8_init_44 : decode cX8_init 44 = .ok (.bipush 30, 2) := by decide +kernel
theorem dX8_init_46 : decode cX8_init 46 = .ok (.invokespecial 27, 3) := by decide +kernel
theorem dX8_init_49 : decode cX8_init 49 = .ok (.putfield 34, 3) := by decide +kernel
theorem dX8_init_52 : decode cX8_init 52 = .ok (.return_, 1) := by decide +kernel
theorem dX8_begin_0 : decode cX8_begin 0 = .ok (.aload_n 0, 1) := by decide +kernel
theorem dX8_begin_1 : decode cX8_begin 1 = .ok (.getfield 12, 3) := by decide +kernel
theorem dX8_begin_4 : decode cX8_begin 4 = .ok (.aload_n 1, 1) := by decide +kernel
theorem dX8_begin_5 : decode cX8_begin 5 = .ok (.invokevirtual 37, 3) := by decide +kernel
theorem dX8_begin_8 : decode cX8_begin 8 = .ok (.aload_n 0, 1) := by decide +kernel
theorem dX8_begin_9 : decode cX8_begin 9 = .ok (.getfield 21, 3) := by decide +kernel
theorem dX8_begin_12 : decode cX8_begin 12 = .ok (.invokevirtual 41, 3) := by decide +kernel
theorem dX8_begin_15 : decode cX8_begin 15 = .ok (.aload_n 0, 1) := by decide +kernel
theorem dX8_begin_16 : decode cX8_begin 16 = .ok (.getfield 30, 3) := by decide +kernel
theorem dX8_begin_19 : decode cX8_begin 19 = .ok (.invokevirtual 43, 3) := by decide +kernel
theorem dX8_begin_22 : decode cX8_begin 22 = .ok (.aload_n 0, 1) := by decide +kernel
theorem dX8_begin_23 : decode cX8_begin 23 = .ok (.getfield 34, 3) := by decide +kernel
theorem dX8_begin_26 : decode cX8_begin 26 = .ok (.invokevirtual 43, 3) := by decide +kernel
theorem dX8_begin_29 : decode cX8_begin 29 = .ok (.aload_n 0, 1) := by decide +kernel
theorem dX8_begin_30 : decode cX8_begin 30 = .ok (.iconst 0, 1) := by decide +kernel
theorem dX8_begin_31 : decode cX8_begin 31 = .ok (.putfield 46, 3) := by decide +kernel
theorem dX8_begin_34 : decode cX8_begin 34 = .ok (.aload_n 0, 1) := by decide +kernel
theorem dX8_begin_35 : decode cX8_begin 35 = .ok (.iconst 0, 1) := by decide +kernel
theorem dX8_begin_36 : decode cX8_begin 36 = .ok (.putfield 50, 3) := by decide +kernel
theorem dX8_begin_39 : decode cX8_begin 39 = .ok (.aload_n 0, 1) := by decide +kernel
theorem dX8_begin_40 : decode cX8_begin 40 = .ok (.iconst 0, 1) := by decide +kernel
theorem dX8_begin_41 : decode cX8_begin 41 = .ok (.invokevirtual 53, 3) := by decide +kernel
theorem dX8_begin_44 : decode cX8_begin 44 = .ok (.aload_n 0, 1) := by decide +kernel
theorem dX8_begin_45 : decode cX8_begin 45 = .ok (.iconst 0, 1) := by decide +kernel
theorem dX8_begin_46 : decode cX8_begin 46 = .ok (.putfield 56, 3) := by decide +kernel
theorem dX8_begin_49 : decode cX8_begin 49 = .ok (.return_, 1) := by decide +kernel
theorem dX8_beginVote_0 : decode cX8_beginVote 0 = .ok (.aload_n 0, 1) := by decide +kernel
theorem dX8_beginVote_1 : decode cX8_beginVote 1 = .ok (.iconst 1, 1) := by decide +kernel
theorem dX8_beginVote_2 : decode cX8_beginVote 2 = .ok (.putfield 56, 3) := by decide +kernel
theorem dX8_beginVote_5 : decode cX8_beginVote 5 = .ok (.aload_n 0, 1) := by decide +kernel
theorem dX8_beginVote_6 : decode cX8_beginVote 6 = .ok (.iload_n 1, 1) := by decide +kernel
theorem dX8_beginVote_7 : decode cX8_beginVote 7 = .ok (.putfield 60, 3) := by decide +kernel
theorem dX8_beginVote_10 : decode cX8_beginVote 10 = .ok (.aload_n 0, 1) := by decide +kernel
theorem dX8_beginVote_11 : decode cX8_beginVote 11 = .ok (.iconst 0, 1) := by decide +kernel
theorem dX8_beginVote_12 : decode cX8_beginVote 12 = .ok (.putfield 63, 3) := by decide +kernel
theorem dX8_beginVote_15 : decode cX8_beginVote 15 = .ok (.aload_n 0, 1) := by decide +kernel
theorem dX8_beginVote_16 : decode cX8_beginVote 16 = .ok (.iconst 0, 1) := by decide +kernel
theorem dX8_beginVote_17 : decode cX8_beginVote 17 = .ok (.putfield 66, 3) := by decide +kernel
theorem dX8_beginVote_20 : decode cX8_beginVote 20 = .ok (.aload_n 0, 1) := by decide +kernel
theorem dX8_beginVote_21 : decode cX8_beginVote 21 = .ok (.iconst 0, 1) := by decide +kernel
theorem dX8_beginVote_22 : decode cX8_beginVote 22 = .ok (.putfield 69, 3) := by decide +kernel
theorem dX8_beginVote_25 : decode cX8_beginVote 25 = .ok (.aload_n 0, 1) := by decide +kernel
theorem dX8_beginVote_26 : decode cX8_beginVote 26 = .ok (.iconst 0, 1) := by decide +kernel
theorem dX8_beginVote_27 : decode cX8_beginVote 27 = .ok (.putfield 72, 3) := by decide +kernel
theorem dX8_beginVote_30 : decode cX8_beginVote 30 = .ok (.return_, 1) := by decide +kernel
theorem dX8_copyFrom_0 : decode cX8_copyFrom 0 = .ok (.aload_n 0, 1) := by decide +kernel
theorem dX8_copyFrom_1 : decode cX8_copyFrom 1 = .ok (.getfield 12, 3) := by decide +kernel
theorem dX8_copyFrom_4 : decode cX8_copyFrom 4 = .ok (.aload_n 1, 1) := by decide +kernel
theorem dX8_copyFrom_5 : decode cX8_copyFrom 5 = .ok (.getfield 12, 3) := by decide +kernel
theorem dX8_copyFrom_8 : decode cX8_copyFrom 8 = .ok (.invokevirtual 75, 3) := by decide +kernel
theorem dX8_copyFrom_11 : decode cX8_copyFrom 11 = .ok (.aload_n 0, 1) := by decide +kernel
theorem dX8_copyFrom_12 : decode cX8_copyFrom 12 = .ok (.getfield 21, 3) := by decide +kernel
theorem dX8_copyFrom_15 : decode cX8_copyFrom 15 = .ok (.aload_n 1, 1) := by decide +kernel
theorem dX8_copyFrom_16 : decode cX8_copyFrom 16 = .ok (.getfield 21, 3) := by decide +kernel
theorem dX8_copyFrom_19 : decode cX8_copyFrom 19 = .ok (.invokevirtual 79, 3) := by decide +kernel
theorem dX8_copyFrom_22 : decode cX8_copyFrom 22 = .ok (.aload_n 0, 1) := by decide +kernel
theorem dX8_copyFrom_23 : decode cX8_copyFrom 23 = .ok (.getfield 30, 3) := by decide +kernel
theorem dX8_copyFrom_26 : decode cX8_copyFrom 26 = .ok (.aload_n 1, 1) := by decide +kernel
theorem dX8_copyFrom_27 : decode cX8_copyFrom 27 = .ok (.getfield 30, 3) := by decide +kernel
theorem dX8_copyFrom_30 : decode cX8_copyFrom 30 = .ok (.invokevirtual 82, 3) := by decide +kernel
theorem dX8_copyFrom_33 : decode cX8_copyFrom 33 = .ok (.aload_n 0, 1) := by decide +kernel
theorem dX8_copyFrom_34 : decode cX8_copyFrom 34 = .ok (.getfield 34, 3) := by decide +kernel
theorem dX8_copyFrom_37 : decode cX8_copyFrom 37 = .ok (.aload_n 1, 1) := by decide +kernel
theorem dX8_copyFrom_38 : decode cX8_copyFrom 38 = .ok (.getfield 34, 3) := by decide +kernel
theorem dX8_copyFrom_41 : decode cX8_copyFrom 41 = .ok (.invokevirtual 82, 3) := by decide +kernel
theorem dX8_copyFrom_44 : decode cX8_copyFrom 44 = .ok (.aload_n 0, 1) := by decide +kernel
theorem dX8_copyFrom_45 : decode cX8_copyFrom 45 = .ok (.aload_n 1, 1) := by decide +kernel
theorem dX8_copyFrom_46 : decode cX8_copyFrom 46 = .ok (.getfield 46, 3) := by decide +kernel
theorem dX8_copyFrom_49 : decode cX8_copyFrom 49 = .ok (.putfield 46, 3) := by decide +kernel
theorem dX8_copyFrom_52 : decode cX8_copyFrom 52 = .ok (.aload_n 0, 1) := by decide +kernel
theorem dX8_copyFrom_53 : decode cX8_copyFrom 53 = .ok (.aload_n 1, 1) := by decide +kernel
theorem dX8_copyFrom_54 : decode cX8_copyFrom 54 = .ok (.getfield 50, 3) := by decide +kernel
theorem dX8_copyFrom_57 : decode cX8_copyFrom 57 = .ok (.putfield 50, 3) := by decide +kernel
theorem dX8_copyFrom_60 : decode cX8_copyFrom 60 = .ok (.aload_n 0, 1) := by decide +kernel
theorem dX8_copyFrom_61 : decode cX8_copyFrom 61 = .ok (.aload_n 1, 1) := by decide +kernel
theorem dX8_copyFrom_62 : decode cX8_copyFrom 62 = .ok (.getfield 56, 3) := by decide +kernel
theorem dX8_copyFrom_65 : decode cX8_copyFrom 65 = .ok (.putfield 56, 3) := by decide +kernel
theorem dX8_copyFrom_68 : decode cX8_copyFrom 68 = .ok (.aload_n 0, 1) := by decide +kernel
theorem dX8_copyFrom_69 : decode cX8_copyFrom 69 = .ok (.aload_n 1, 1) := by decide +kernel
theorem dX8_copyFrom_70 : decode cX8_copyFrom 70 = .ok (.getfield 60, 3) := by decide +kernel
theorem dX8_copyFrom_73 : decode cX8_copyFrom 73 = .ok (.putfield 60, 3) := by decide +kernel
theorem dX8_copyFrom_76 : decode cX8_copyFrom 76 = .ok (.aload_n 0, 1) := by decide +kernel
theorem dX8_copyFrom_77 : decode cX8_copyFrom 77 = .ok (.aload_n 1, 1) := by decide +kernel
theorem dX8_copyFrom_78 : decode cX8_copyFrom 78 = .ok (.getfield 63, 3) := by decide +kernel
theorem dX8_copyFrom_81 : decode cX8_copyFrom 81 = .ok (.putfield 63, 3) := by decide +kernel
theorem dX8_copyFrom_84 : decode cX8_copyFrom 84 = .ok (.aload_n 0, 1) := by decide +kernel
theorem dX8_copyFrom_85 : decode cX8_copyFrom 85 = .ok (.aload_n 1, 1) := by decide +kernel
theorem dX8_copyFrom_86 : decode cX8_copyFrom 86 = .ok (.getfield 66, 3) := by decide +kernel
theorem dX8_copyFrom_89 : decode cX8_copyFrom 89 = .ok (.putfield 66, 3) := by decide +kernel
theorem dX8_copyFrom_92 : decode cX8_copyFrom 92 = .ok (.aload_n 0, 1) := by decide +kernel
theorem dX8_copyFrom_93 : decode cX8_copyFrom 93 = .ok (.aload_n 1, 1) := by decide +kernel
theorem dX8_copyFrom_94 : decode cX8_copyFrom 94 = .ok (.getfield 69, 3) := by decide +kernel
theorem dX8_copyFrom_97 : decode cX8_copyFrom 97 = .ok (.putfield 69, 3) := by decide +kernel
theorem dX8_copyFrom_100 : decode cX8_copyFrom 100 = .ok (.aload_n 0, 1) := by decide +kernel
theorem dX8_copyFrom_101 : decode cX8_copyFrom 101 = .ok (.aload_n 1, 1) := by decide +kernel
theorem dX8_copyFrom_102 : decode cX8_copyFrom 102 = .ok (.getfield 72, 3) := by decide +kernel
theorem dX8_copyFrom_105 : decode cX8_copyFrom 105 = .ok (.putfield 72, 3) := by decide +kernel
theorem dX8_copyFrom_108 : decode cX8_copyFrom 108 = .ok (.return_, 1) := by decide +kernel
theorem dX9_init_0 : decode cX9_init 0 = .ok (.aload_n 0, 1) := by decide +kernel
theorem dX9_init_1 : decode cX9_init 1 = .ok (.invokespecial 3, 3) := by decide +kernel
theorem dX9_init_4 : decode cX9_init 4 = .ok (.aload_n 0, 1) := by decide +kernel
theorem dX9_init_5 : decode cX9_init 5 = .ok (.bipush 20, 2) := by decide +kernel
theorem dX9_init_7 : decode cX9_init 7 = .ok (.newarray .int, 2) := by decide +kernel
theorem dX9_init_9 : decode cX9_init 9 = .ok (.putfield 9, 3) := by decide +kernel
theorem dX9_init_12 : decode cX9_init 12 = .ok (.aload_n 0, 1) := by decide +kernel
theorem dX9_init_13 : decode cX9_init 13 = .ok (.bipush 20, 2) := by decide +kernel
theorem dX9_init_15 : decode cX9_init 15 = .ok (.newarray .int, 2) := by decide +kernel
theorem dX9_init_17 : decode cX9_init 17 = .ok (.putfield 15, 3) := by decide +kernel
theorem dX9_init_20 : decode cX9_init 20 = .ok (.aload_n 0, 1) := by decide +kernel
theorem dX9_init_21 : decode cX9_init 21 = .ok (.bipush 20, 2) := by decide +kernel
theorem dX9_init_23 : decode cX9_init 23 = .ok (.newarray .int, 2) := by decide +kernel
theorem dX9_init_25 : decode cX9_init 25 = .ok (.putfield 18, 3) := by decide +kernel
theorem dX9_init_28 : decode cX9_init 28 = .ok (.aload_n 0, 1) := by decide +kernel
theorem dX9_init_29 : decode cX9_init 29 = .ok (.bipush 20, 2) := by decide +kernel
theorem dX9_init_31 : decode cX9_init 31 = .ok (.newarray .int, 2) := by decide +kernel
theorem dX9_init_33 : decode cX9_init 33 = .ok (.putfield 21, 3) := by decide +kernel
theorem dX9_init_36 : decode cX9_init 36 = .ok (.aload_n 0, 1) := by decide +kernel
theorem dX9_init_37 : decode cX9_init 37 = .ok (.bipush 20, 2) := by decide +kernel
theorem dX9_init_39 : decode cX9_init 39 = .ok (.newarray .int, 2) := by decide +kernel
theorem dX9_init_41 : decode cX9_init 41 = .ok (.putfield 24, 3) := by decide +kernel
theorem dX9_init_44 : decode cX9_init 44 = .ok (.aload_n 0, 1) := by decide +kernel
theorem dX9_init_45 : decode cX9_init 45 = .ok (.bipush 20, 2) := by decide +kernel
theorem dX9_init_47 : decode cX9_init 47 = .ok (.newarray .int, 2) := by decide +kernel
theorem dX9_init_49 : decode cX9_init 49 = .ok (.putfield 27, 3) := by decide +kernel
theorem dX9_init_52 : decode cX9_init 52 = .ok (.return_, 1) := by decide +kernel
theorem dX9_begin_0 : decode cX9_begin 0 = .ok (.aload_n 0, 1) := by decide +kernel
theorem dX9_begin_1 : decode cX9_begin 1 = .ok (.getfield 9, 3) := by decide +kernel
theorem dX9_begin_4 : decode cX9_begin 4 = .ok (.iconst 0, 1) := by decide +kernel
theorem dX9_begin_5 : decode cX9_begin 5 = .ok (.invokestatic 30, 3) := by decide +kernel
theorem dX9_begin_8 : decode cX9_begin 8 = .ok (.aload_n 0, 1) := by decide +kernel
theorem dX9_begin_9 : decode cX9_begin 9 = .ok (.getfield 15, 3) := by decide +kernel
theorem dX9_begin_12 : decode cX9_begin 12 = .ok (.bipush (-2), 2) := by decide +kernel
theorem dX9_begin_14 : decode cX9_begin 14 = .ok (.invokestatic 30, 3) := by decide +kernel
theorem dX9_begin_17 : decode cX9_begin 17 = .ok (.aload_n 0, 1) := by decide +kernel
theorem dX9_begin_18 : decode cX9_begin 18 = .ok (.getfield 18, 3) := by decide +kernel
theorem dX9_begin_21 : decode cX9_begin 21 = .ok (.bipush (-2), 2) := by decide +kernel
theorem dX9_begin_23 : decode cX9_begin 23 = .ok (.invokestatic 30, 3) := by decide +kernel
theorem dX9_begin_26 : decode cX9_begin 26 = .ok (.aload_n 0, 1) := by decide +kernel
theorem dX9_begin_27 : decode cX9_begin 27 = .ok (.getfield 21, 3) := by decide +kernel
theorem dX9_begin_30 : decode cX9_begin 30 = .ok (.bipush (-2), 2) := by decide +kernel
theorem dX9_begin_32 : decode cX9_begin 32 = .ok (.invokestatic 30, 3) := by decide +kernel
theorem dX9_begin_35 : decode cX9_begin 35 = .ok (.aload_n 0, 1) := by decide +kernel
theorem dX9_begin_36 : decode cX9_begin 36 = .ok (.getfield 24, 3) := by decide +kernel
theorem dX9_begin_39 : decode cX9_begin 39 = .ok (.bipush (-2), 2) := by decide +kernel
theorem dX9_begin_41 : decode cX9_begin 41 = .ok (.invokestatic 30, 3) := by decide +kernel
theorem dX9_begin_44 : decode cX9_begin 44 = .ok (.aload_n 0, 1) := by decide +kernel
theorem dX9_begin_45 : decode cX9_begin 45 = .ok (.getfield 27, 3) := by decide +kernel
theorem dX9_begin_48 : decode cX9_begin 48 = .ok (.iconst 0, 1) := by decide +kernel
theorem dX9_begin_49 : decode cX9_begin 49 = .ok (.invokestatic 30, 3) := by decide +kernel
theorem dX9_begin_52 : decode cX9_begin 52 = .ok (.return_, 1) := by decide +kernel
theorem dX9_copyFrom_0 : decode cX9_copyFrom 0 = .ok (.aload_n 1, 1) := by decide +kernel
theorem dX9_copyFrom_1 : decode cX9_copyFrom 1 = .ok (.getfield 9, 3) := by decide +kernel
theorem dX9_copyFrom_4 : decode cX9_copyFrom 4 = .ok (.aload_n 0, 1) := by decide +kernel
theorem dX9_copyFrom_5 : decode cX9_copyFrom 5 = .ok (.getfield 9, 3) := by decide +kernel
theorem dX9_copyFrom_8 : decode cX9_copyFrom 8 = .ok (.invokestatic 34, 3) := by decide +kernel
theorem dX9_copyFrom_11 : decode cX9_copyFrom 11 = .ok (.aload_n 1, 1) := by decide +kernel
theorem dX9_copyFrom_12 : decode cX9_copyFrom 12 = .ok (.getfield 15, 3) := by decide +kernel
theorem dX9_copyFrom_15 : decode cX9_copyFrom 15 = .ok (.aload_n 0, 1) := by decide +kernel
theorem dX9_copyFrom_16 : decode cX9_copyFrom 16 = .ok (.getfield 15, 3) := by decide +kernel
theorem dX9_copyFrom_19 : decode cX9_copyFrom 19 = .ok (.invokestatic 34, 3) := by decide +kernel
theorem dX9_copyFrom_22 : decode cX9_copyFrom 22 = .ok (.aload_n 1, 1) := by decide +kernel
theorem dX9_copyFrom_23 : decode cX9_copyFrom 23 = .ok (.getfield 18, 3) := by decide +kernel
theorem dX9_copyFrom_26 : decode cX9_copyFrom 26 = .ok (.aload_n 0, 1) := by decide +kernel
theorem dX9_copyFrom_27 : decode cX9_copyFrom 27 = .ok (.getfield 18, 3) := by decide +kernel
theorem dX9_copyFrom_30 : decode cX9_copyFrom 30 = .ok (.invokestatic 34, 3) := by decide +kernel
theorem dX9_copyFrom_33 : decode cX9_copyFrom 33 = .ok (.aload_n 1, 1) := by decide +kernel
theorem dX9_copyFrom_34 : decode cX9_copyFrom 34 = .ok (.getfield 21, 3) := by decide +kernel
theorem dX9_copyFrom_37 : decode cX9_copyFrom 37 = .ok (.aload_n 0, 1) := by decide +kernel
theorem dX9_copyFrom_38 : decode cX9_copyFrom 38 = .ok (.getfield 21, 3) := by decide +kernel
theorem dX9_copyFrom_41 : decode cX9_copyFrom 41 = .ok (.invokestatic 34, 3) := by decide +kernel
theorem dX9_copyFrom_44 : decode cX9_copyFrom 44 = .ok (.aload_n 1, 1) := by decide +kernel
theorem dX9_copyFrom_45 : decode cX9_copyFrom 45 = .ok (.getfield 24, 3) := by decide +kernel
theorem dX9_copyFrom_48 : decode cX9_copyFrom 48 = .ok (.aload_n 0, 1) := by decide +kernel
theorem dX9_copyFrom_49 : decode cX9_copyFrom 49 = .ok (.getfield 24, 3) := by decide +kernel
theorem dX9_copyFrom_52 : decode cX9_copyFrom 52 = .ok (.invokestatic 34, 3) := by decide +kernel
theorem dX9_copyFrom_55 : decode cX9_copyFrom 55 = .ok (.aload_n 1, 1) := by decide +kernel
theorem dX9_copyFrom_56 : decode cX9_copyFrom 56 = .ok (.getfield 27, 3) := by decide +kernel
theorem dX9_copyFrom_59 : decode cX9_copyFrom 59 = .ok (.aload_n 0, 1) := by decide +kernel
theorem dX9_copyFrom_60 : decode cX9_copyFrom 60 = .ok (.getfield 27, 3) := by decide +kernel
theorem dX9_copyFrom_63 : decode cX9_copyFrom 63 = .ok (.invokestatic 34, 3) := by decide +kernel
theorem dX9_copyFrom_66 : decode cX9_copyFrom 66 = .ok (.return_, 1) := by decide +kernel
theorem dX9_placeOf_0 : decode cX9_placeOf 0 = .ok (.aload_n 0, 1) := by decide +kernel
theorem dX9_placeOf_1 : decode cX9_placeOf 1 = .ok (.getfield 9, 3) := by decide +kernel
theorem dX9_placeOf_4 : decode cX9_placeOf 4 = .ok (.iload_n 1, 1) := by decide +kernel
theorem dX9_placeOf_5 : decode cX9_placeOf 5 = .ok (.iconst 0, 1) := by decide +kernel
theorem dX9_placeOf_6 : decode cX9_placeOf 6 = .ok (.invokestatic 38, 3) := by decide +kernel
theorem dX9_placeOf_9 : decode cX9_placeOf 9 = .ok (.ireturn, 1) := by decide +kernel
theorem dX9_carrierOf_0 : decode cX9_carrierOf 0 = .ok (.aload_n 0, 1) := by decide +kernel
theorem dX9_carrierOf_1 : decode cX9_carrierOf 1 = .ok (.getfield 15, 3) := by decide +kernel
theorem dX9_carrierOf_4 : decode cX9_carrierOf 4 = .ok (.iload_n 1, 1) := by decide +kernel
theorem dX9_carrierOf_5 : decode cX9_carrierOf 5 = .ok (.bipush (-2), 2) := by decide +kernel
theorem dX9_carrierOf_7 : decode cX9_carrierOf 7 = .ok (.invokestatic 38, 3) := by decide +kernel
theorem dX9_carrierOf_10 : decode cX9_carrierOf 10 = .ok (.ireturn, 1) := by decide +kernel
theorem dX9_boundTo_0 : decode cX9_boundTo 0 = .ok (.aload_n 0, 1) := by decide +kernel
theorem dX9_boundTo_1 : decode cX9_boundTo 1 = .ok (.getfield 18, 3) := by decide +kernel
theorem dX9_boundTo_4 : decode cX9_boundTo 4 = .ok (.iload_n 1, 1) := by decide +kernel
theorem dX9_boundTo_5 : decode cX9_boundTo 5 = .ok (.bipush (-2), 2) := by decide +kernel
theorem dX9_boundTo_7 : decode cX9_boundTo 7 = .ok (.invokestatic 38, 3) := by decide +kernel
theorem dX9_boundTo_10 : decode cX9_boundTo 10 = .ok (.ireturn, 1) := by decide +kernel
theorem dX9_basketOf_0 : decode cX9_basketOf 0 = .ok (.aload_n 0, 1) := by decide +kernel
theorem dX9_basketOf_1 : decode cX9_basketOf 1 = .ok (.getfield 21, 3) := by decide +kernel
theorem dX9_basketOf_4 : decode cX9_basketOf 4 = .ok (.iload_n 1, 1) := by decide +kernel
theorem dX9_basketOf_5 : decode cX9_basketOf 5 = .ok (.bipush (-2), 2) := by decide +kernel
theorem dX9_basketOf_7 : decode cX9_basketOf 7 = .ok (.invokestatic 38, 3) := by decide +kernel
theorem dX9_basketOf_10 : decode cX9_basketOf 10 = .ok (.ireturn, 1) := by decide +kernel
theorem dX9_dayOf_0 : decode cX9_dayOf 0 = .ok (.aload_n 0, 1) := by decide +kernel
theorem dX9_dayOf_1 : decode cX9_dayOf 1 = .ok (.getfield 24, 3) := by decide +kernel
theorem dX9_dayOf_4 : decode cX9_dayOf 4 = .ok (.iload_n 1, 1) := by decide +kernel
theorem dX9_dayOf_5 : decode cX9_dayOf 5 = .ok (.bipush (-2), 2) := by decide +kernel
theorem dX9_dayOf_7 : decode cX9_dayOf 7 = .ok (.invokestatic 38, 3) := by decide +kernel
theorem dX9_dayOf_10 : decode cX9_dayOf 10 = .ok (.ireturn, 1) := by decide +kernel
theorem dX9_reasonOf_0 : decode cX9_reasonOf 0 = .ok (.aload_n 0, 1) := by decide +kernel
theorem dX9_reasonOf_1 : decode cX9_reasonOf 1 = .ok (.getfield 27, 3) := by decide +kernel
theorem dX9_reasonOf_4 : decode cX9_reasonOf 4 = .ok (.iload_n 1, 1) := by decide +kernel
theorem dX9_reasonOf_5 : decode cX9_reasonOf 5 = .ok (.iconst 0, 1) := by decide +kernel
theorem dX9_reasonOf_6 : decode cX9_reasonOf 6 = .ok (.invokestatic 38, 3) := by decide +kernel
theorem dX9_reasonOf_9 : decode cX9_reasonOf 9 = .ok (.ireturn, 1) := by decide +kernel
theorem dX9_isHadBy_0 : decode cX9_isHadBy 0 = .ok (.aload_n 0, 1) := by decide +kernel
theorem dX9_isHadBy_1 : decode cX9_isHadBy 1 = .ok (.iload_n 2, 1) := by decide +kernel
theorem dX9_isHadBy_2 : decode cX9_isHadBy 2 = .ok (.invokevirtual 42, 3) := by decide +kernel
theorem dX9_isHadBy_5 : decode cX9_isHadBy 5 = .ok (.ifCond .ne 14, 3) := by decide +kernel
theorem dX9_isHadBy_8 : decode cX9_isHadBy 8 = .ok (.iload_n 1, 1) := by decide +kernel
theorem dX9_isHadBy_9 : decode cX9_isHadBy 9 = .ok (.iload_n 2, 1) := by decide +kernel
theorem dX9_isHadBy_10 : decode cX9_isHadBy 10 = .ok (.if_icmp .ne 7, 3) := by decide +kernel
theorem dX9_isHadBy_13 : decode cX9_isHadBy 13 = .ok (.iconst 1, 1) := by decide +kernel
theorem dX9_isHadBy_14 : decode cX9_isHadBy 14 = .ok (.goto 4, 3) := by decide +kernel
theorem dX9_isHadBy_17 : decode cX9_isHadBy 17 = .ok (.iconst 0, 1) := by decide +kernel
theorem dX9_isHadBy_18 : decode cX9_isHadBy 18 = .ok (.ireturn, 1) := by decide +kernel
theorem dX9_isHadBy_19 : decode cX9_isHadBy 19 = .ok (.aload_n 0, 1) := by decide +kernel
theorem dX9_isHadBy_20 : decode cX9_isHadBy 20 = .ok (.iload_n 2, 1) := by decide +kernel
theorem dX9_isHadBy_21 : decode cX9_isHadBy 21 = .ok (.invokevirtual 42, 3) := by decide +kernel
theorem dX9_isHadBy_24 : decode cX9_isHadBy 24 = .ok (.iconst 1, 1) := by decide +kernel
theorem dX9_isHadBy_25 : decode cX9_isHadBy 25 = .ok (.if_icmp .ne 16, 3) := by decide +kernel
theorem dX9_isHadBy_28 : decode cX9_isHadBy 28 = .ok (.aload_n 0, 1) := by decide +kernel
theorem dX9_isHadBy_29 : decode cX9_isHadBy 29 = .ok (.iload_n 2, 1) := by decide +kernel
theorem dX9_isHadBy_30 : decode cX9_isHadBy 30 = .ok (.invokevirtual 46, 3) := by decide +kernel
theorem dX9_isHadBy_33 : decode cX9_isHadBy 33 = .ok (.iload_n 1, 1) := by decide +kernel
theorem dX9_isHadBy_34 : decode cX9_isHadBy 34 = .ok (.if_icmp .ne 7, 3) := by decide +kernel
theorem dX9_isHadBy_37 : decode cX9_isHadBy 37 = .ok (.iconst 1, 1) := by decide +kernel
theorem dX9_isHadBy_38 : decode cX9_isHadBy 38 = .ok (.goto 4, 3) := by decide +kernel
theorem dX9_isHadBy_41 : decode cX9_isHadBy 41 = .ok (.iconst 0, 1) := by decide +kernel
theorem dX9_isHadBy_42 : decode cX9_isHadBy 42 = .ok (.ireturn, 1) := by decide +kernel
theorem dX9_isWrong_0 : decode cX9_isWrong 0 = .ok (.aload_n 0, 1) := by decide +kernel
theorem dX9_isWrong_1 : decode cX9_isWrong 1 = .ok (.iload_n 1, 1) := by decide +kernel
theorem dX9_isWrong_2 : decode cX9_isWrong 2 = .ok (.invokevirtual 42, 3) := by decide +kernel
theorem dX9_isWrong_5 : decode cX9_isWrong 5 = .ok (.iconst 2, 1) := by decide +kernel
theorem dX9_isWrong_6 : decode cX9_isWrong 6 = .ok (.if_icmp .ne 15, 3) := by decide +kernel
theorem dX9_isWrong_9 : decode cX9_isWrong 9 = .ok (.aload_n 0, 1) := by decide +kernel
theorem dX9_isWrong_10 : decode cX9_isWrong 10 = .ok (.iload_n 1, 1) := by decide +kernel
theorem dX9_isWrong_11 : decode cX9_isWrong 11 = .ok (.invokevirtual 49, 3) := by decide +kernel
theorem dX9_isWrong_14 : decode cX9_isWrong 14 = .ok (.ifCond .eq 7, 3) := by decide +kernel
theorem dX9_isWrong_17 : decode cX9_isWrong 17 = .ok (.iconst 1, 1) := by decide +kernel
theorem dX9_isWrong_18 : decode cX9_isWrong 18 = .ok (.goto 4, 3) := by decide +kernel
theorem dX9_isWrong_21 : decode cX9_isWrong 21 = .ok (.iconst 0, 1) := by decide +kernel
theorem dX9_isWrong_22 : decode cX9_isWrong 22 = .ok (.ireturn, 1) := by decide +kernel
theorem dX9_handTo_0 : decode cX9_handTo 0 = .ok (.aload_n 0, 1) := by decide +kernel
theorem dX9_handTo_1 : decode cX9_handTo 1 = .ok (.getfield 9, 3) := by decide +kernel
theorem dX9_handTo_4 : decode cX9_handTo 4 = .ok (.iload_n 1, 1) := by decide +kernel
theorem dX9_handTo_5 : decode cX9_handTo 5 = .ok (.iconst 1, 1) := by decide +kernel
theorem dX9_handTo_6 : decode cX9_handTo 6 = .ok (.invokestatic 52, 3) := by decide +kernel
theorem dX9_handTo_9 : decode cX9_handTo 9 = .ok (.aload_n 0, 1) := by decide +kernel
theorem dX9_handTo_10 : decode cX9_handTo 10 = .ok (.getfield 15, 3) := by decide +kernel
theorem dX9_handTo_13 : decode cX9_handTo 13 = .ok (.iload_n 1, 1) := by decide +kernel
theorem dX9_handTo_14 : decode cX9_handTo 14 = .ok (.iload_n 2, 1) := by decide +kernel
theorem dX9_handTo_15 : decode cX9_handTo 15 = .ok (.invokestatic 52, 3) := by decide +kernel
theorem dX9_handTo_18 : decode cX9_handTo 18 = .ok (.aload_n 0, 1) := by decide +kernel
theorem dX9_handTo_19 : decode cX9_handTo 19 = .ok (.getfield 18, 3) := by decide +kernel
theorem dX9_handTo_22 : decode cX9_handTo 22 = .ok (.iload_n 1, 1) := by decide +kernel
theorem dX9_handTo_23 : decode cX9_handTo 23 = .ok (.iload_n 3, 1) := by decide +kernel
theorem dX9_handTo_24 : decode cX9_handTo 24 = .ok (.invokestatic 52, 3) := by decide +kernel
theorem dX9_handTo_27 : decode cX9_handTo 27 = .ok (.return_, 1) := by decide +kernel
theorem dX9_handBack_0 : decode cX9_handBack 0 = .ok (.aload_n 0, 1) := by decide +kernel
theorem dX9_handBack_1 : decode cX9_handBack 1 = .ok (.getfield 9, 3) := by decide +kernel
theorem dX9_handBack_4 : decode cX9_handBack 4 = .ok (.iload_n 1, 1) := by decide +kernel
theorem dX9_handBack_5 : decode cX9_handBack 5 = .ok (.iconst 0, 1) := by decide +kernel
theorem dX9_handBack_6 : decode cX9_handBack 6 = .ok (.invokestatic 52, 3) := by decide +kernel
theorem dX9_handBack_9 : decode cX9_handBack 9 = .ok (.aload_n 0, 1) := by decide +kernel
theorem dX9_handBack_10 : decode cX9_handBack 10 = .ok (.getfield 15, 3) := by decide +kernel
theorem dX9_handBack_13 : decode cX9_handBack 13 = .ok (.iload_n 1, 1) := by decide +kernel
theorem dX9_handBack_14 : decode cX9_handBack 14 = .ok (.bipush (-2), 2) := by decide +kernel
theorem dX9_handBack_16 : decode cX9_handBack 16 = .ok (.invokestatic 52, 3) := by decide +kernel
theorem dX9_handBack_19 : decode cX9_handBack 19 = .ok (.aload_n 0, 1) := by decide +kernel
theorem dX9_handBack_20 : decode cX9_handBack 20 = .ok (.getfield 18, 3) := by decide +kernel
theorem dX9_handBack_23 : decode cX9_handBack 23 = .ok (.iload_n 1, 1) := by decide +kernel
theorem dX9_handBack_24 : decode cX9_handBack 24 = .ok (.bipush (-2), 2) := by decide +kernel
theorem dX9_handBack_26 : decode cX9_handBack 26 = .ok (.invokestatic 52, 3) := by decide +kernel
theorem dX9_handBack_29 : decode cX9_handBack 29 = .ok (.return_, 1) := by decide +kernel
theorem dX9_putInto_0 : decode cX9_putInto 0 = .ok (.aload_n 0, 1) := by decide +kernel
theorem dX9_putInto_1 : decode cX9_putInto 1 = .ok (.getfield 9, 3) := by decide +kernel
theorem dX9_putInto_4 : decode cX9_putInto 4 = .ok (.iload_n 1, 1) := by decide +kernel
theorem dX9_putInto_5 : decode cX9_putInto 5 = .ok (.iconst 2, 1) := by decide +kernel
theorem dX9_putInto_6 : decode cX9_putInto 6 = .ok (.invokestatic 52, 3) := by decide +kernel
theorem dX9_putInto_9 : decode cX9_putInto 9 = .ok (.aload_n 0, 1) := by decide +kernel
theorem dX9_putInto_10 : decode cX9_putInto 10 = .ok (.getfield 21, 3) := by decide +kernel
theorem dX9_putInto_13 : decode cX9_putInto 13 = .ok (.iload_n 1, 1) := by decide +kernel
theorem dX9_putInto_14 : decode cX9_putInto 14 = .ok (.iload_n 2, 1) := by decide +kernel
theorem dX9_putInto_15 : decode cX9_putInto 15 = .ok (.invokestatic 52, 3) := by decide +kernel
theorem dX9_putInto_18 : decode cX9_putInto 18 = .ok (.aload_n 0, 1) := by decide +kernel
theorem dX9_putInto_19 : decode cX9_putInto 19 = .ok (.getfield 24, 3) := by decide +kernel
theorem dX9_putInto_22 : decode cX9_putInto 22 = .ok (.iload_n 1, 1) := by decide +kernel
theorem dX9_putInto_23 : decode cX9_putInto 23 = .ok (.iload_n 3, 1) := by decide +kernel
theorem dX9_putInto_24 : decode cX9_putInto 24 = .ok (.invokestatic 52, 3) := by decide +kernel
theorem dX9_putInto_27 : decode cX9_putInto 27 = .ok (.aload_n 0, 1) := by decide +kernel
theorem dX9_putInto_28 : decode cX9_putInto 28 = .ok (.getfield 27, 3) := by decide +kernel
theorem dX9_putInto_31 : decode cX9_putInto 31 = .ok (.iload_n 1, 1) := by decide +kernel
theorem dX9_putInto_32 : decode cX9_putInto 32 = .ok (.iload 4, 2) := by decide +kernel
theorem dX9_putInto_34 : decode cX9_putInto 34 = .ok (.invokestatic 52, 3) := by decide +kernel
theorem dX9_putInto_37 : decode cX9_putInto 37 = .ok (.return_, 1) := by decide +kernel
theorem dX9_strike_0 : decode cX9_strike 0 = .ok (.aload_n 0, 1) := by decide +kernel
theorem dX9_strike_1 : decode cX9_strike 1 = .ok (.getfield 9, 3) := by decide +kernel
theorem dX9_strike_4 : decode cX9_strike 4 = .ok (.iload_n 1, 1) := by decide +kernel
theorem dX9_strike_5 : decode cX9_strike 5 = .ok (.iconst 3, 1) := by decide +kernel
theorem dX9_strike_6 : decode cX9_strike 6 = .ok (.invokestatic 52, 3) := by decide +kernel
theorem dX9_strike_9 : decode cX9_strike 9 = .ok (.return_, 1) := by decide +kernel
theorem dX9_takeOut_0 : decode cX9_takeOut 0 = .ok (.iconst 0, 1) := by decide +kernel
theorem dX9_takeOut_1 : decode cX9_takeOut 1 = .ok (.istore_n 1, 1) := by decide +kernel
theorem dX9_takeOut_2 : decode cX9_takeOut 2 = .ok (.iload_n 1, 1) := by decide +kernel
theorem dX9_takeOut_3 : decode cX9_takeOut 3 = .ok (.bipush 20, 2) := by decide +kernel
theorem dX9_takeOut_5 : decode cX9_takeOut 5 = .ok (.if_icmp .ge 61, 3) := by decide +kernel
theorem dX9_takeOut_8 : decode cX9_takeOut 8 = .ok (.aload_n 0, 1) := by decide +kernel
theorem dX9_takeOut_9 : decode cX9_takeOut 9 = .ok (.getfield 9, 3) := by decide +kernel
theorem dX9_takeOut_12 : decode cX9_takeOut 12 = .ok (.iload_n 1, 1) := by decide +kernel
theorem dX9_takeOut_13 : decode cX9_takeOut 13 = .ok (.aload_n 0, 1) := by decide +kernel
theorem dX9_takeOut_14 : decode cX9_takeOut 14 = .ok (.iload_n 1, 1) := by decide +kernel
theorem dX9_takeOut_15 : decode cX9_takeOut 15 = .ok (.invokevirtual 46, 3) := by decide +kernel
theorem dX9_takeOut_18 : decode cX9_takeOut 18 = .ok (.bipush (-2), 2) := by decide +kernel
theorem dX9_takeOut_20 : decode cX9_takeOut 20 = .ok (.if_icmp .ne 7, 3) := by decide +kernel
theorem dX9_takeOut_23 : decode cX9_takeOut 23 = .ok (.iconst 0, 1) := by decide +kernel
theorem dX9_takeOut_24 : decode cX9_takeOut 24 = .ok (.goto 4, 3) := by decide +kernel
theorem dX9_takeOut_27 : decode cX9_takeOut 27 = .ok (.iconst 1, 1) := by decide +kernel
theorem dX9_takeOut_28 : decode cX9_takeOut 28 = .ok (.invokestatic 52, 3) := by decide +kernel
theorem dX9_takeOut_31 : decode cX9_takeOut 31 = .ok (.aload_n 0, 1) := by decide +kernel
theorem dX9_takeOut_32 : decode cX9_takeOut 32 = .ok (.getfield 21, 3) := by decide +kernel
theorem dX9_takeOut_35 : decode cX9_takeOut 35 = .ok (.iload_n 1, 1) := by decide +kernel
theorem dX9_takeOut_36 : decode cX9_takeOut 36 = .ok (.bipush (-2), 2) := by decide +kernel
theorem dX9_takeOut_38 : decode cX9_takeOut 38 = .ok (.invokestatic 52, 3) := by decide +kernel
theorem dX9_takeOut_41 : decode cX9_takeOut 41 = .ok (.aload_n 0, 1) := by decide +kernel
theorem dX9_takeOut_42 : decode cX9_takeOut 42 = .ok (.getfield 24, 3) := by decide +kernel
theorem dX9_takeOut_45 : decode cX9_takeOut 45 = .ok (.iload_n 1, 1) := by decide +kernel
theorem dX9_takeOut_46 : decode cX9_takeOut 46 = .ok (.bipush (-2), 2) := by decide +kernel
theorem dX9_takeOut_48 : decode cX9_takeOut 48 = .ok (.invokestatic 52, 3) := by decide +kernel
theorem dX9_takeOut_51 : decode cX9_takeOut 51 = .ok (.aload_n 0, 1) := by decide +kernel
theorem dX9_takeOut_52 : decode cX9_takeOut 52 = .ok (.getfield 27, 3) := by decide +kernel
theorem dX9_takeOut_55 : decode cX9_takeOut 55 = .ok (.iload_n 1, 1) := by decide +kernel
theorem dX9_takeOut_56 : decode cX9_takeOut 56 = .ok (.iconst 0, 1) := by decide +kernel
theorem dX9_takeOut_57 : decode cX9_takeOut 57 = .ok (.invokestatic 52, 3) := by decide +kernel
theorem dX9_takeOut_60 : decode cX9_takeOut 60 = .ok (.iinc 1 1, 3) := by decide +kernel
theorem dX9_takeOut_63 : decode cX9_takeOut 63 = .ok (.goto (-61), 3) := by decide +kernel
theorem dX9_takeOut_66 : decode cX9_takeOut 66 = .ok (.return_, 1) := by decide +kernel
theorem dX9_countIn_0 : decode cX9_countIn 0 = .ok (.aload_n 0, 1) := by decide +kernel
theorem dX9_countIn_1 : decode cX9_countIn 1 = .ok (.iload_n 1, 1) := by decide +kernel
theorem dX9_countIn_2 : decode cX9_countIn 2 = .ok (.invokevirtual 56, 3) := by decide +kernel
theorem dX9_countIn_5 : decode cX9_countIn 5 = .ok (.invokestatic 59, 3) := by decide +kernel
theorem dX9_countIn_8 : decode cX9_countIn 8 = .ok (.ireturn, 1) := by decide +kernel
theorem dX9_turnout_0 : decode cX9_turnout 0 = .ok (.aload_n 0, 1) := by decide +kernel
theorem dX9_turnout_1 : decode cX9_turnout 1 = .ok (.iconst 2, 1) := by decide +kernel
theorem dX9_turnout_2 : decode cX9_turnout 2 = .ok (.invokevirtual 64, 3) := by decide +kernel
theorem dX9_turnout_5 : decode cX9_turnout 5 = .ok (.ireturn, 1) := by decide +kernel
theorem dX9_struckOnes_0 : decode cX9_struckOnes 0 = .ok (.aload_n 0, 1) := by decide +kernel
theorem dX9_struckOnes_1 : decode cX9_struckOnes 1 = .ok (.iconst 3, 1) := by decide +kernel
theorem dX9_struckOnes_2 : decode cX9_struckOnes 2 = .ok (.invokevirtual 64, 3) := by decide +kernel
theorem dX9_struckOnes_5 : decode cX9_struckOnes 5 = .ok (.ireturn, 1) := by decide +kernel
theorem dX9_countAt_0 : decode cX9_countAt 0 = .ok (.iconst 0, 1) := by decide +kernel
theorem dX9_countAt_1 : decode cX9_countAt 1 = .ok (.istore_n 2, 1) := by decide +kernel
theorem dX9_countAt_2 : decode cX9_countAt 2 = .ok (.iconst 0, 1) := by decide +kernel
theorem dX9_countAt_3 : decode cX9_countAt 3 = .ok (.istore_n 3, 1) := by decide +kernel
theorem dX9_countAt_4 : decode cX9_countAt 4 = .ok (.iload_n 3, 1) := by decide +kernel
theorem dX9_countAt_5 : decode cX9_countAt 5 = .ok (.bipush 20, 2) := by decide +kernel
theorem dX9_countAt_7 : decode cX9_countAt 7 = .ok (.if_icmp .ge 21, 3) := by decide +kernel
theorem dX9_countAt_10 : decode cX9_countAt 10 = .ok (.aload_n 0, 1) := by decide +kernel
theorem dX9_countAt_11 : decode cX9_countAt 11 = .ok (.iload_n 3, 1) := by decide +kernel
theorem dX9_countAt_12 : decode cX9_countAt 12 = .ok (.invokevirtual 42, 3) := by decide +kernel
theorem dX9_countAt_15 : decode cX9_countAt 15 = .ok (.iload_n 1, 1) := by decide +kernel
theorem dX9_countAt_16 : decode cX9_countAt 16 = .ok (.if_icmp .ne 6, 3) := by decide +kernel
theorem dX9_countAt_19 : decode cX9_countAt 19 = .ok (.iinc 2 1, 3) := by decide +kernel
theorem dX9_countAt_22 : decode cX9_countAt 22 = .ok (.iinc 3 1, 3) := by decide +kernel
theorem dX9_countAt_25 : decode cX9_countAt 25 = .ok (.goto (-21), 3) := by decide +kernel
theorem dX9_countAt_28 : decode cX9_countAt 28 = .ok (.iload_n 2, 1) := by decide +kernel
theorem dX9_countAt_29 : decode cX9_countAt 29 = .ok (.ireturn, 1) := by decide +kernel
theorem dX9_laidForOthers_0 : decode cX9_laidForOthers 0 = .ok (.iconst 0, 1) := by decide +kernel
theorem dX9_laidForOthers_1 : decode cX9_laidForOthers 1 = .ok (.istore_n 2, 1) := by decide +kernel
theorem dX9_laidForOthers_2 : decode cX9_laidForOthers 2 = .ok (.iconst 0, 1) := by decide +kernel
theorem dX9_laidForOthers_3 : decode cX9_laidForOthers 3 = .ok (.istore_n 3, 1) := by decide +kernel
theorem dX9_laidForOthers_4 : decode cX9_laidForOthers 4 = .ok (.iload_n 3, 1) := by decide +kernel
theorem dX9_laidForOthers_5 : decode cX9_laidForOthers 5 = .ok (.bipush 20, 2) := by decide +kernel
theorem dX9_laidForOthers_7 : decode cX9_laidForOthers 7 = .ok (.if_icmp .ge 51, 3) := by decide +kernel
theorem dX9_laidForOthers_10 : decode cX9_laidForOthers 10 = .ok (.aload_n 0, 1) := by decide +kernel
theorem dX9_laidForOthers_11 : decode cX9_laidForOthers 11 = .ok (.iload_n 3, 1) := by decide +kernel
theorem dX9_laidForOthers_12 : decode cX9_laidForOthers 12 = .ok (.invokevirtual 42, 3) := by decide +kernel
theorem dX9_laidForOthers_15 : decode cX9_laidForOthers 15 = .ok (.iconst 2, 1) := by decide +kernel
theorem dX9_laidForOthers_16 : decode cX9_laidForOthers 16 = .ok (.if_icmp .eq 12, 3) := by decide +kernel
theorem dX9_laidForOthers_19 : decode cX9_laidForOthers 19 = .ok (.aload_n 0, 1) := by decide +kernel
theorem dX9_laidForOthers_20 : decode cX9_laidForOthers 20 = .ok (.iload_n 3, 1) := by decide +kernel
theorem dX9_laidForOthers_21 : decode cX9_laidForOthers 21 = .ok (.invokevirtual 42, 3) := by decide +kernel
theorem dX9_laidForOthers_24 : decode cX9_laidForOthers 24 = .ok (.iconst 3, 1) := by decide +kernel
theorem dX9_laidForOthers_25 : decode cX9_laidForOthers 25 = .ok (.if_icmp .ne 7, 3) := by decide +kernel
theorem dX9_laidForOthers_28 : decode cX9_laidForOthers 28 = .ok (.iconst 1, 1) := by decide +kernel
theorem dX9_laidForOthers_29 : decode cX9_laidForOthers 29 = .ok (.goto 4, 3) := by decide +kernel
theorem dX9_laidForOthers_32 : decode cX9_laidForOthers 32 = .ok (.iconst 0, 1) := by decide +kernel
theorem dX9_laidForOthers_33 : decode cX9_laidForOthers 33 = .ok (.istore 4, 2) := by decide +kernel
theorem dX9_laidForOthers_35 : decode cX9_laidForOthers 35 = .ok (.iload 4, 2) := by decide +kernel
theorem dX9_laidForOthers_37 : decode cX9_laidForOthers 37 = .ok (.ifCond .eq 15, 3) := by decide +kernel
theorem dX9_laidForOthers_40 : decode cX9_laidForOthers 40 = .ok (.aload_n 0, 1) := by decide +kernel
theorem dX9_laidForOthers_41 : decode cX9_laidForOthers 41 = .ok (.iload_n 3, 1) := by decide +kernel
theorem dX9_laidForOthers_42 : decode cX9_laidForOthers 42 = .ok (.invokevirtual 46, 3) := by decide +kernel
theorem dX9_laidForOthers_45 : decode cX9_laidForOthers 45 = .ok (.iload_n 1, 1) := by decide +kernel
theorem dX9_laidForOthers_46 : decode cX9_laidForOthers 46 = .ok (.if_icmp .ne 6, 3) := by decide +kernel
theorem dX9_laidForOthers_49 : decode cX9_laidForOthers 49 = .ok (.iinc 2 1, 3) := by decide +kernel
theorem dX9_laidForOthers_52 : decode cX9_laidForOthers 52 = .ok (.iinc 3 1, 3) := by decide +kernel
theorem dX9_laidForOthers_55 : decode cX9_laidForOthers 55 = .ok (.goto (-51), 3) := by decide +kernel
theorem dX9_laidForOthers_58 : decode cX9_laidForOthers 58 = .ok (.iload_n 2, 1) := by decide +kernel
theorem dX9_laidForOthers_59 : decode cX9_laidForOthers 59 = .ok (.ireturn, 1) := by decide +kernel
theorem dX9_maskIn_0 : decode cX9_maskIn 0 = .ok (.iconst 0, 1) := by decide +kernel
theorem dX9_maskIn_1 : decode cX9_maskIn 1 = .ok (.istore_n 2, 1) := by decide +kernel
theorem dX9_maskIn_2 : decode cX9_maskIn 2 = .ok (.iconst 0, 1) := by decide +kernel
theorem dX9_maskIn_3 : decode cX9_maskIn 3 = .ok (.istore_n 3, 1) := by decide +kernel
theorem dX9_maskIn_4 : decode cX9_maskIn 4 = .ok (.iload_n 3, 1) := by decide +kernel
theorem dX9_maskIn_5 : decode cX9_maskIn 5 = .ok (.bipush 20, 2) := by decide +kernel
theorem dX9_maskIn_7 : decode cX9_maskIn 7 = .ok (.if_icmp .ge 33, 3) := by decide +kernel
theorem dX9_maskIn_10 : decode cX9_maskIn 10 = .ok (.aload_n 0, 1) := by decide +kernel
theorem dX9_maskIn_11 : decode cX9_maskIn 11 = .ok (.iload_n 3, 1) := by decide +kernel
theorem dX9_maskIn_12 : decode cX9_maskIn 12 = .ok (.invokevirtual 42, 3) := by decide +kernel
theorem dX9_maskIn_15 : decode cX9_maskIn 15 = .ok (.iconst 2, 1) := by decide +kernel
theorem dX9_maskIn_16 : decode cX9_maskIn 16 = .ok (.if_icmp .ne 18, 3) := by decide +kernel
theorem dX9_maskIn_19 : decode cX9_maskIn 19 = .ok (.aload_n 0, 1) := by decide +kernel
theorem dX9_maskIn_20 : decode cX9_maskIn 20 = .ok (.iload_n 3, 1) := by decide +kernel
theorem dX9_maskIn_21 : decode cX9_maskIn 21 = .ok (.invokevirtual 67, 3) := by decide +kernel
theorem dX9_maskIn_24 : decode cX9_maskIn 24 = .ok (.iload_n 1, 1) := by decide +kernel
theorem dX9_maskIn_25 : decode cX9_maskIn 25 = .ok (.if_icmp .ne 9, 3) := by decide +kernel
theorem dX9_maskIn_28 : decode cX9_maskIn 28 = .ok (.iload_n 2, 1) := by decide +kernel
theorem dX9_maskIn_29 : decode cX9_maskIn 29 = .ok (.iconst 1, 1) := by decide +kernel
theorem dX9_maskIn_30 : decode cX9_maskIn 30 = .ok (.iload_n 3, 1) := by decide +kernel
theorem dX9_maskIn_31 : decode cX9_maskIn 31 = .ok (.ishl, 1) := by decide +kernel
theorem dX9_maskIn_32 : decode cX9_maskIn 32 = .ok (.ior, 1) := by decide +kernel
theorem dX9_maskIn_33 : decode cX9_maskIn 33 = .ok (.istore_n 2, 1) := by decide +kernel
theorem dX9_maskIn_34 : decode cX9_maskIn 34 = .ok (.iinc 3 1, 3) := by decide +kernel
theorem dX9_maskIn_37 : decode cX9_maskIn 37 = .ok (.goto (-33), 3) := by decide +kernel
theorem dX9_maskIn_40 : decode cX9_maskIn 40 = .ok (.iload_n 2, 1) := by decide +kernel
theorem dX9_maskIn_41 : decode cX9_maskIn 41 = .ok (.ireturn, 1) := by decide +kernel
theorem dX9_carriedBy_0 : decode cX9_carriedBy 0 = .ok (.iconst 0, 1) := by decide +kernel
theorem dX9_carriedBy_1 : decode cX9_carriedBy 1 = .ok (.istore_n 2, 1) := by decide +kernel
theorem dX9_carriedBy_2 : decode cX9_carriedBy 2 = .ok (.iconst 0, 1) := by decide +kernel
theorem dX9_carriedBy_3 : decode cX9_carriedBy 3 = .ok (.istore_n 3, 1) := by decide +kernel
theorem dX9_carriedBy_4 : decode cX9_carriedBy 4 = .ok (.iload_n 3, 1) := by decide +kernel
theorem dX9_carriedBy_5 : decode cX9_carriedBy 5 = .ok (.bipush 20, 2) := by decide +kernel
theorem dX9_carriedBy_7 : decode cX9_carriedBy 7 = .ok (.if_icmp .ge 33, 3) := by decide +kernel
theorem dX9_carriedBy_10 : decode cX9_carriedBy 10 = .ok (.aload_n 0, 1) := by decide +kernel
theorem dX9_carriedBy_11 : decode cX9_carriedBy 11 = .ok (.iload_n 3, 1) := by decide +kernel
theorem dX9_carriedBy_12 : decode cX9_carriedBy 12 = .ok (.invokevirtual 42, 3) := by decide +kernel
theorem dX9_carriedBy_15 : decode cX9_carriedBy 15 = .ok (.iconst 1, 1) := by decide +kernel
theorem dX9_carriedBy_16 : decode cX9_carriedBy 16 = .ok (.if_icmp .ne 18, 3) := by decide +kernel
theorem dX9_carriedBy_19 : decode cX9_carriedBy 19 = .ok (.aload_n 0, 1) := by decide +kernel
theorem dX9_carriedBy_20 : decode cX9_carriedBy 20 = .ok (.iload_n 3, 1) := by decide +kernel
theorem dX9_carriedBy_21 : decode cX9_carriedBy 21 = .ok (.invokevirtual 46, 3) := by decide +kernel
theorem dX9_carriedBy_24 : decode cX9_carriedBy 24 = .ok (.iload_n 1, 1) := by decide +kernel
theorem dX9_carriedBy_25 : decode cX9_carriedBy 25 = .ok (.if_icmp .ne 9, 3) := by decide +kernel
theorem dX9_carriedBy_28 : decode cX9_carriedBy 28 = .ok (.iload_n 2, 1) := by decide +kernel
theorem dX9_carriedBy_29 : decode cX9_carriedBy 29 = .ok (.iconst 1, 1) := by decide +kernel
theorem dX9_carriedBy_30 : decode cX9_carriedBy 30 = .ok (.iload_n 3, 1) := by decide +kernel
theorem dX9_carriedBy_31 : decode cX9_carriedBy 31 = .ok (.ishl, 1) := by decide +kernel
theorem dX9_carriedBy_32 : decode cX9_carriedBy 32 = .ok (.ior, 1) := by decide +kernel
theorem dX9_carriedBy_33 : decode cX9_carriedBy 33 = .ok (.istore_n 2, 1) := by decide +kernel
theorem dX9_carriedBy_34 : decode cX9_carriedBy 34 = .ok (.iinc 3 1, 3) := by decide +kernel
theorem dX9_carriedBy_37 : decode cX9_carriedBy 37 = .ok (.goto (-33), 3) := by decide +kernel
theorem dX9_carriedBy_40 : decode cX9_carriedBy 40 = .ok (.iload_n 2, 1) := by decide +kernel
theorem dX9_carriedBy_41 : decode cX9_carriedBy 41 = .ok (.ireturn, 1) := by decide +kernel
theorem dX9_wrongMask_0 : decode cX9_wrongMask 0 = .ok (.iconst 0, 1) := by decide +kernel
theorem dX9_wrongMask_1 : decode cX9_wrongMask 1 = .ok (.istore_n 1, 1) := by decide +kernel
theorem dX9_wrongMask_2 : decode cX9_wrongMask 2 = .ok (.iconst 0, 1) := by decide +kernel
theorem dX9_wrongMask_3 : decode cX9_wrongMask 3 = .ok (.istore_n 2, 1) := by decide +kernel
theorem dX9_wrongMask_4 : decode cX9_wrongMask 4 = .ok (.iload_n 2, 1) := by decide +kernel
theorem dX9_wrongMask_5 : decode cX9_wrongMask 5 = .ok (.bipush 20, 2) := by decide +kernel
theorem dX9_wrongMask_7 : decode cX9_wrongMask 7 = .ok (.if_icmp .ge 23, 3) := by decide +kernel
theorem dX9_wrongMask_10 : decode cX9_wrongMask 10 = .ok (.aload_n 0, 1) := by decide +kernel
theorem dX9_wrongMask_11 : decode cX9_wrongMask 11 = .ok (.iload_n 2, 1) := by decide +kernel
theorem dX9_wrongMask_12 : decode cX9_wrongMask 12 = .ok (.invokevirtual 70, 3) := by decide +kernel
theorem dX9_wrongMask_15 : decode cX9_wrongMask 15 = .ok (.ifCond .eq 9, 3) := by decide +kernel
theorem dX9_wrongMask_18 : decode cX9_wrongMask 18 = .ok (.iload_n 1, 1) := by decide +kernel
theorem dX9_wrongMask_19 : decode cX9_wrongMask 19 = .ok (.iconst 1, 1) := by decide +kernel
theorem dX9_wrongMask_20 : decode cX9_wrongMask 20 = .ok (.iload_n 2, 1) := by decide +kernel
theorem dX9_wrongMask_21 : decode cX9_wrongMask 21 = .ok (.ishl, 1) := by decide +kernel
theorem dX9_wrongMask_22 : decode cX9_wrongMask 22 = .ok (.ior, 1) := by decide +kernel
theorem dX9_wrongMask_23 : decode cX9_wrongMask 23 = .ok (.istore_n 1, 1) := by decide +kernel
theorem dX9_wrongMask_24 : decode cX9_wrongMask 24 = .ok (.iinc 2 1, 3) := by decide +kernel
theorem dX9_wrongMask_27 : decode cX9_wrongMask 27 = .ok (.goto (-23), 3) := by decide +kernel
theorem dX9_wrongMask_30 : decode cX9_wrongMask 30 = .ok (.iload_n 1, 1) := by decide +kernel
theorem dX9_wrongMask_31 : decode cX9_wrongMask 31 = .ok (.ireturn, 1) := by decide +kernel
theorem dX10_init_0 : decode cX10_init 0 = .ok (.aload_n 0, 1) := by decide +kernel
theorem dX10_init_1 : decode cX10_init 1 = .ok (.invokespecial 3, 3) := by decide +kernel
theorem dX10_init_4 : decode cX10_init 4 = .ok (.aload_n 0, 1) := by decide +kernel
theorem dX10_init_5 : decode cX10_init 5 = .ok (.new 9, 3) := by decide +kernel
theorem dX10_init_8 : decode cX10_init 8 = .ok (.dup, 1) := by decide +kernel
theorem dX10_init_9 : decode cX10_init 9 = .ok (.invokespecial 11, 3) := by decide +kernel
theorem dX10_init_12 : decode cX10_init 12 = .ok (.putfield 12, 3) := by decide +kernel
theorem dX10_init_15 : decode cX10_init 15 = .ok (.aload_n 0, 1) := by decide +kernel
theorem dX10_init_16 : decode cX10_init 16 = .ok (.new 18, 3) := by decide +kernel
theorem dX10_init_19 : decode cX10_init 19 = .ok (.dup, 1) := by decide +kernel
theorem dX10_init_20 : decode cX10_init 20 = .ok (.invokespecial 20, 3) := by decide +kernel
theorem dX10_init_23 : decode cX10_init 23 = .ok (.putfield 21, 3) := by decide +kernel
theorem dX10_init_26 : decode cX10_init 26 = .ok (.aload_n 0, 1) := by decide +kernel
theorem dX10_init_27 : decode cX10_init 27 = .ok (.new 25, 3) := by decide +kernel
theorem dX10_init_30 : decode cX10_init 30 = .ok (.dup, 1) := by decide +kernel
theorem dX10_init_31 : decode cX10_init 31 = .ok (.invokespecial 27, 3) := by decide +kernel
theorem dX10_init_34 : decode cX10_init 34 = .ok (.putfield 28, 3) := by decide +kernel
theorem dX10_init_37 : decode cX10_init 37 = .ok (.return_, 1) := by decide +kernel
theorem dX10_beginTheFirstOne_0 : decode cX10_beginTheFirstOne 0 = .ok (.aload_n 0, 1) := by decide +kernel
theorem dX10_beginTheFirstOne_1 : decode cX10_beginTheFirstOne 1 = .ok (.getfield 12, 3) := by decide +kernel
theorem dX10_beginTheFirstOne_4 : decode cX10_beginTheFirstOne 4 = .ok (.invokevirtual 32, 3) := by decide +kernel
theorem dX10_beginTheFirstOne_7 : decode cX10_beginTheFirstOne 7 = .ok (.aload_n 0, 1) := by decide +kernel
theorem dX10_beginTheFirstOne_8 : decode cX10_beginTheFirstOne 8 = .ok (.getfield 21, 3) := by decide +kernel
theorem dX10_beginTheFirstOne_11 : decode cX10_beginTheFirstOne 11 = .ok (.aload_n 0, 1) := by decide +kernel
theorem dX10_beginTheFirstOne_12 : decode cX10_beginTheFirstOne 12 = .ok (.getfield 12, 3) := by decide +kernel
theorem dX10_beginTheFirstOne_15 : decode cX10_beginTheFirstOne 15 = .ok (.invokevirtual 35, 3) := by decide +kernel
theorem dX10_beginTheFirstOne_18 : decode cX10_beginTheFirstOne 18 = .ok (.return_, 1) := by decide +kernel
theorem dX10_beginAnew_0 : decode cX10_beginAnew 0 = .ok (.aload_n 0, 1) := by decide +kernel
theorem dX10_beginAnew_1 : decode cX10_beginAnew 1 = .ok (.getfield 12, 3) := by decide +kernel
theorem dX10_beginAnew_4 : decode cX10_beginAnew 4 = .ok (.aload_n 1, 1) := by decide +kernel
theorem dX10_beginAnew_5 : decode cX10_beginAnew 5 = .ok (.invokevirtual 39, 3) := by decide +kernel
theorem dX10_beginAnew_8 : decode cX10_beginAnew 8 = .ok (.aload_n 0, 1) := by decide +kernel
theorem dX10_beginAnew_9 : decode cX10_beginAnew 9 = .ok (.getfield 21, 3) := by decide +kernel
theorem dX10_beginAnew_12 : decode cX10_beginAnew 12 = .ok (.aload_n 0, 1) := by decide +kernel
theorem dX10_beginAnew_13 : decode cX10_beginAnew 13 = .ok (.getfield 12, 3) := by decide +kernel
theorem dX10_beginAnew_16 : decode cX10_beginAnew 16 = .ok (.invokevirtual 35, 3) := by decide +kernel
theorem dX10_beginAnew_19 : decode cX10_beginAnew 19 = .ok (.return_, 1) := by decide +kernel
theorem dX10_setOut_0 : decode cX10_setOut 0 = .ok (.aload_n 0, 1) := by decide +kernel
theorem dX10_setOut_1 : decode cX10_setOut 1 = .ok (.getfield 21, 3) := by decide +kernel
theorem dX10_setOut_4 : decode cX10_setOut 4 = .ok (.getfield 42, 3) := by decide +kernel
theorem dX10_setOut_7 : decode cX10_setOut 7 = .ok (.iload_n 2, 1) := by decide +kernel
theorem dX10_setOut_8 : decode cX10_setOut 8 = .ok (.iadd, 1) := by decide +kernel
theorem dX10_setOut_9 : decode cX10_setOut 9 = .ok (.istore_n 3, 1) := by decide +kernel
theorem dX10_setOut_10 : decode cX10_setOut 10 = .ok (.aload_n 0, 1) := by decide +kernel
theorem dX10_setOut_11 : decode cX10_setOut 11 = .ok (.getfield 21, 3) := by decide +kernel
theorem dX10_setOut_14 : decode cX10_setOut 14 = .ok (.getfield 46, 3) := by decide +kernel
theorem dX10_setOut_17 : decode cX10_setOut 17 = .ok (.iload_n 1, 1) := by decide +kernel
theorem dX10_setOut_18 : decode cX10_setOut 18 = .ok (.iload_n 3, 1) := by decide +kernel
theorem dX10_setOut_19 : decode cX10_setOut 19 = .ok (.invokevirtual 50, 3) := by decide +kernel
theorem dX10_setOut_22 : decode cX10_setOut 22 = .ok (.istore 4, 2) := by decide +kernel
theorem dX10_setOut_24 : decode cX10_setOut 24 = .ok (.aload_n 0, 1) := by decide +kernel
theorem dX10_setOut_25 : decode cX10_setOut 25 = .ok (.getfield 21, 3) := by decide +kernel
theorem dX10_setOut_28 : decode cX10_setOut 28 = .ok (.getfield 56, 3) := by decide +kernel
theorem dX10_setOut_31 : decode cX10_setOut 31 = .ok (.aload_n 0, 1) := by decide +kernel
theorem dX10_setOut_32 : decode cX10_setOut 32 = .ok (.getfield 21, 3) := by decide +kernel
theorem dX10_setOut_35 : decode cX10_setOut 35 = .ok (.getfield 42, 3) := by decide +kernel
theorem dX10_setOut_38 : decode cX10_setOut 38 = .ok (.iconst 0, 1) := by decide +kernel
theorem dX10_setOut_39 : decode cX10_setOut 39 = .ok (.iload_n 1, 1) := by decide +kernel
theorem dX10_setOut_40 : decode cX10_setOut 40 = .ok (.iload_n 3, 1) := by decide +kernel
theorem dX10_setOut_41 : decode cX10_setOut 41 = .ok (.invokevirtual 60, 3) := by decide +kernel
theorem dX10_setOut_44 : decode cX10_setOut 44 = .ok (.iload 4, 2) := by decide +kernel
theorem dX10_setOut_46 : decode cX10_setOut 46 = .ok (.ireturn, 1) := by decide +kernel
theorem dX10_bringHome_0 : decode cX10_bringHome 0 = .ok (.aload_n 0, 1) := by decide +kernel
theorem dX10_bringHome_1 : decode cX10_bringHome 1 = .ok (.getfield 21, 3) := by decide +kernel
theorem dX10_bringHome_4 : decode cX10_bringHome 4 = .ok (.getfield 46, 3) := by decide +kernel
theorem dX10_bringHome_7 : decode cX10_bringHome 7 = .ok (.iload_n 1, 1) := by decide +kernel
theorem dX10_bringHome_8 : decode cX10_bringHome 8 = .ok (.invokevirtual 66, 3) := by decide +kernel
theorem dX10_bringHome_11 : decode cX10_bringHome 11 = .ok (.istore_n 2, 1) := by decide +kernel
theorem dX10_bringHome_12 : decode cX10_bringHome 12 = .ok (.aload_n 0, 1) := by decide +kernel
theorem dX10_bringHome_13 : decode cX10_bringHome 13 = .ok (.getfield 21, 3) := by decide +kernel
theorem dX10_bringHome_16 : decode cX10_bringHome 16 = .ok (.getfield 56, 3) := by decide +kernel
theorem dX10_bringHome_19 : decode cX10_bringHome 19 = .ok (.aload_n 0, 1) := by decide +kernel
theorem dX10_bringHome_20 : decode cX10_bringHome 20 = .ok (.getfield 21, 3) := by decide +kernel
theorem dX10_bringHome_23 : decode cX10_bringHome 23 = .ok (.getfield 42, 3) := by decide +kernel
theorem dX10_bringHome_26 : decode cX10_bringHome 26 = .ok (.iconst 1, 1) := by decide +kernel
theorem dX10_bringHome_27 : decode cX10_bringHome 27 = .ok (.iload_n 1, 1) := by decide +kernel
theorem dX10_bringHome_28 : decode cX10_bringHome 28 = .ok (.iload_n 2, 1) := by decide +kernel
theorem dX10_bringHome_29 : decode cX10_bringHome 29 = .ok (.invokevirtual 60, 3) := by decide +kernel
theorem dX10_bringHome_32 : decode cX10_bringHome 32 = .ok (.iload_n 2, 1) := by decide +kernel
theorem dX10_bringHome_33 : decode cX10_bringHome 33 = .ok (.ireturn, 1) := by decide +kernel
theorem dX10_letDaysPass_0 : decode cX10_letDaysPass 0 = .ok (.iconst 0, 1) := by decide +kernel
theorem dX10_letDaysPass_1 : decode cX10_letDaysPass 1 = .ok (.istore_n 2, 1) := by decide +kernel
theorem dX10_letDaysPass_2 : decode cX10_letDaysPass 2 = .ok (.iconst 0, 1) := by decide +kernel
theorem dX10_letDaysPass_3 : decode cX10_letDaysPass 3 = .ok (.istore_n 3, 1) := by decide +kernel
theorem dX10_letDaysPass_4 : decode cX10_letDaysPass 4 = .ok (.iload_n 3, 1) := by decide +kernel
theorem dX10_letDaysPass_5 : decode cX10_letDaysPass 5 = .ok (.iload_n 1, 1) := by decide +kernel
theorem dX10_letDaysPass_6 : decode cX10_letDaysPass 6 = .ok (.if_icmp .ge 39, 3) := by decide +kernel
theorem dX10_letDaysPass_9 : decode cX10_letDaysPass 9 = .ok (.aload_n 0, 1) := by decide +kernel
theorem dX10_letDaysPass_10 : decode cX10_letDaysPass 10 = .ok (.getfield 21, 3) := by decide +kernel
theorem dX10_letDaysPass_13 : decode cX10_letDaysPass 13 = .ok (.dup, 1) := by decide +kernel
theorem dX10_letDaysPass_14 : decode cX10_letDaysPass 14 = .ok (.getfield 42, 3) := by decide +kernel
theorem dX10_letDaysPass_17 : decode cX10_letDaysPass 17 = .ok (.iconst 1, 1) := by decide +kernel
theorem dX10_letDaysPass_18 : decode cX10_letDaysPass 18 = .ok (.iadd, 1) := by decide +kernel
theorem dX10_letDaysPass_19 : decode cX10_letDaysPass 19 = .ok (.putfield 42, 3) := by decide +kernel
theorem dX10_letDaysPass_22 : decode cX10_letDaysPass 22 = .ok (.aload_n 0, 1) := by decide +kernel
theorem dX10_letDaysPass_23 : decode cX10_letDaysPass 23 = .ok (.getfield 21, 3) := by decide +kernel
theorem dX10_letDaysPass_26 : decode cX10_letDaysPass 26 = .ok (.getfield 46, 3) := by decide +kernel
theorem dX10_letDaysPass_29 : decode cX10_letDaysPass 29 = .ok (.invokevirtual 70, 3) := by decide +kernel
theorem dX10_letDaysPass_32 : decode cX10_letDaysPass 32 = .ok (.iload_n 2, 1) := by decide +kernel
theorem dX10_letDaysPass_33 : decode cX10_letDaysPass 33 = .ok (.aload_n 0, 1) := by decide +kernel
theorem dX10_letDaysPass_34 : decode cX10_letDaysPass 34 = .ok (.invokevirtual 73, 3) := by decide +kernel
theorem dX10_letDaysPass_37 : decode cX10_letDaysPass 37 = .ok (.iadd, 1) := by decide +kernel
theorem dX10_letDaysPass_38 : decode cX10_letDaysPass 38 = .ok (.istore_n 2, 1) := by decide +kernel
theorem dX10_letDaysPass_39 : decode cX10_letDaysPass 39 = .ok (.iinc 3 1, 3) := by decide +kernel
theorem dX10_letDaysPass_42 : decode cX10_letDaysPass 42 = .ok (.goto (-38), 3) := by decide +kernel
theorem dX10_letDaysPass_45 : decode cX10_letDaysPass 45 = .ok (.iload_n 2, 1) := by decide +kernel
theorem dX10_letDaysPass_46 : decode cX10_letDaysPass 46 = .ok (.ireturn, 1) := by decide +kernel
theorem dX10_bringHomeTodays_0 : decode cX10_bringHomeTodays 0 = .ok (.iconst 0, 1) := by decide +kernel
theorem dX10_bringHomeTodays_1 : decode cX10_bringHomeTodays 1 = .ok (.istore_n 1, 1) := by decide +kernel
theorem dX10_bringHomeTodays_2 : decode cX10_bringHomeTodays 2 = .ok (.iconst 0, 1) := by decide +kernel
theorem dX10_bringHomeTodays_3 : decode cX10_bringHomeTodays 3 = .ok (.istore_n 2, 1) := by decide +kernel
theorem dX10_bringHomeTodays_4 : decode cX10_bringHomeTodays 4 = .ok (.iload_n 2, 1) := by decide +kernel
theorem dX10_bringHomeTodays_5 : decode cX10_bringHomeTodays 5 = .ok (.bipush 6, 2) := by decide +kernel
theorem dX10_bringHomeTodays_7 : decode cX10_bringHomeTodays 7 = .ok (.if_icmp .ge 52, 3) := by decide +kernel
theorem dX10_bringHomeTodays_10 : decode cX10_bringHomeTodays 10 = .ok (.aload_n 0, 1) := by decide +kernel
theorem dX10_bringHomeTodays_11 : decode cX10_bringHomeTodays 11 = .ok (.getfield 21, 3) := by decide +kernel
theorem dX10_bringHomeTodays_14 : decode cX10_bringHomeTodays 14 = .ok (.getfield 46, 3) := by decide +kernel
theorem dX10_bringHomeTodays_17 : decode cX10_bringHomeTodays 17 = .ok (.iload_n 2, 1) := by decide +kernel
theorem dX10_bringHomeTodays_18 : decode cX10_bringHomeTodays 18 = .ok (.invokevirtual 77, 3) := by decide +kernel
theorem dX10_bringHomeTodays_21 : decode cX10_bringHomeTodays 21 = .ok (.ifCond .eq 32, 3) := by decide +kernel
theorem dX10_bringHomeTodays_24 : decode cX10_bringHomeTodays 24 = .ok (.aload_n 0, 1) := by decide +kernel
theorem dX10_bringHomeTodays_25 : decode cX10_bringHomeTodays 25 = .ok (.getfield 21, 3) := by decide +kernel
theorem dX10_bringHomeTodays_28 : decode cX10_bringHomeTodays 28 = .ok (.getfield 46, 3) := by decide +kernel
theorem dX10_bringHomeTodays_31 : decode cX10_bringHomeTodays 31 = .ok (.iload_n 2, 1) := by decide +kernel
theorem dX10_bringHomeTodays_32 : decode cX10_bringHomeTodays 32 = .ok (.invokevirtual 81, 3) := by decide +kernel
theorem dX10_bringHomeTodays_35 : decode cX10_bringHomeTodays 35 = .ok (.aload_n 0, 1) := by decide +kernel
theorem dX10_bringHomeTodays_36 : decode cX10_bringHomeTodays 36 = .ok (.getfield 21, 3) := by decide +kernel
theorem dX10_bringHomeTodays_39 : decode cX10_bringHomeTodays 39 = .ok (.getfield 42, 3) := by decide +kernel
theorem dX10_bringHomeTodays_42 : decode cX10_bringHomeTodays 42 = .ok (.if_icmp .ne 11, 3) := by decide +kernel
theorem dX10_bringHomeTodays_45 : decode cX10_bringHomeTodays 45 = .ok (.iload_n 1, 1) := by decide +kernel
theorem dX10_bringHomeTodays_46 : decode cX10_bringHomeTodays 46 = .ok (.aload_n 0, 1) := by decide +kernel
theorem dX10_bringHomeTodays_47 : decode cX10_bringHomeTodays 47 = .ok (.iload_n 2, 1) := by decide +kernel
theorem dX10_bringHomeTodays_48 : decode cX10_bringHomeTodays 48 = .ok (.invokevirtual 84, 3) := by decide +kernel
theorem dX10_bringHomeTodays_51 : decode cX10_bringHomeTodays 51 = .ok (.iadd, 1) := by decide +kernel
theorem dX10_bringHomeTodays_52 : decode cX10_bringHomeTodays 52 = .ok (.istore_n 1, 1) := by decide +kernel
theorem dX10_bringHomeTodays_53 : decode cX10_bringHomeTodays 53 = .ok (.iinc 2 1, 3) := by decide +kernel
theorem dX10_bringHomeTodays_56 : decode cX10_bringHomeTodays 56 = .ok (.goto (-52), 3) := by decide +kernel
theorem dX10_bringHomeTodays_59 : decode cX10_bringHomeTodays 59 = .ok (.iload_n 1, 1) := by decide +kernel
theorem dX10_bringHomeTodays_60 : decode cX10_bringHomeTodays 60 = .ok (.ireturn, 1) := by decide +kernel
theorem dX10_beginVote_0 : decode cX10_beginVote 0 = .ok (.aload_n 0, 1) := by decide +kernel
theorem dX10_beginVote_1 : decode cX10_beginVote 1 = .ok (.getfield 21, 3) := by decide +kernel
theorem dX10_beginVote_4 : decode cX10_beginVote 4 = .ok (.getfield 87, 3) := by decide +kernel
theorem dX10_beginVote_7 : decode cX10_beginVote 7 = .ok (.invokevirtual 91, 3) := by decide +kernel
theorem dX10_beginVote_10 : decode cX10_beginVote 10 = .ok (.aload_n 0, 1) := by decide +kernel
theorem dX10_beginVote_11 : decode cX10_beginVote 11 = .ok (.getfield 21, 3) := by decide +kernel
theorem dX10_beginVote_14 : decode cX10_beginVote 14 = .ok (.iload_n 1, 1) := by decide +kernel
theorem dX10_beginVote_15 : decode cX10_beginVote 15 = .ok (.invokevirtual 96, 3) := by decide +kernel
theorem dX10_beginVote_18 : decode cX10_beginVote 18 = .ok (.aload_n 0, 1) := by decide +kernel
theorem dX10_beginVote_19 : decode cX10_beginVote 19 = .ok (.getfield 21, 3) := by decide +kernel
theorem dX10_beginVote_22 : decode cX10_beginVote 22 = .ok (.dup, 1) := by decide +kernel
theorem dX10_beginVote_23 : decode cX10_beginVote 23 = .ok (.getfield 100, 3) := by decide +kernel
theorem dX10_beginVote_26 : decode cX10_beginVote 26 = .ok (.iconst 1, 1) := by decide +kernel
theorem dX10_beginVote_27 : decode cX10_beginVote 27 = .ok (.iadd, 1) := by decide +kernel
theorem dX10_beginVote_28 : decode cX10_beginVote 28 = .ok (.putfield 100, 3) := by decide +kernel
theorem dX10_beginVote_31 : decode cX10_beginVote 31 = .ok (.aload_n 0, 1) := by decide +kernel
theorem dX10_beginVote_32 : decode cX10_beginVote 32 = .ok (.getfield 21, 3) := by decide +kernel
theorem dX10_beginVote_35 : decode cX10_beginVote 35 = .ok (.getfield 56, 3) := by decide +kernel
theorem dX10_beginVote_38 : decode cX10_beginVote 38 = .ok (.aload_n 0, 1) := by decide +kernel
theorem dX10_beginVote_39 : decode cX10_beginVote 39 = .ok (.getfield 21, 3) := by decide +kernel
theorem dX10_beginVote_42 : decode cX10_beginVote 42 = .ok (.getfield 42, 3) := by decide +kernel
theorem dX10_beginVote_45 : decode cX10_beginVote 45 = .ok (.iconst 2, 1) := by decide +kernel
theorem dX10_beginVote_46 : decode cX10_beginVote 46 = .ok (.aload_n 0, 1) := by decide +kernel
theorem dX10_beginVote_47 : decode cX10_beginVote 47 = .ok (.invokevirtual 103, 3) := by decide +kernel
theorem dX10_beginVote_50 : decode cX10_beginVote 50 = .ok (.iload_n 1, 1) := by decide +kernel
theorem dX10_beginVote_51 : decode cX10_beginVote 51 = .ok (.invokevirtual 60, 3) := by decide +kernel
theorem dX10_beginVote_54 : decode cX10_beginVote 54 = .ok (.aload_n 0, 1) := by decide +kernel
theorem dX10_beginVote_55 : decode cX10_beginVote 55 = .ok (.invokevirtual 103, 3) := by decide +kernel
theorem dX10_beginVote_58 : decode cX10_beginVote 58 = .ok (.ireturn, 1) := by decide +kernel
theorem dX10_putIntoBasket_0 : decode cX10_putIntoBasket 0 = .ok (.aload_n 0, 1) := by decide +kernel
theorem dX10_putIntoBasket_1 : decode cX10_putIntoBasket 1 = .ok (.getfield 21, 3) := by decide +kernel
theorem dX10_putIntoBasket_4 : decode cX10_putIntoBasket 4 = .ok (.getfield 87, 3) := by decide +kernel
theorem dX10_putIntoBasket_7 : decode cX10_putIntoBasket 7 = .ok (.iload_n 2, 1) := by decide +kernel
theorem dX10_putIntoBasket_8 : decode cX10_putIntoBasket 8 = .ok (.iload_n 3, 1) := by decide +kernel
theorem dX10_putIntoBasket_9 : decode cX10_putIntoBasket 9 = .ok (.aload_n 0, 1) := by decide +kernel
theorem dX10_putIntoBasket_10 : decode cX10_putIntoBasket 10 = .ok (.getfield 21, 3) := by decide +kernel
theorem dX10_putIntoBasket_13 : decode cX10_putIntoBasket 13 = .ok (.getfield 42, 3) := by decide +kernel
theorem dX10_putIntoBasket_16 : decode cX10_putIntoBasket 16 = .ok (.aload_n 0, 1) := by decide +kernel
theorem dX10_putIntoBasket_17 : decode cX10_putIntoBasket 17 = .ok (.iload_n 1, 1) := by decide +kernel
theorem dX10_putIntoBasket_18 : decode cX10_putIntoBasket 18 = .ok (.iload_n 2, 1) := by decide +kernel
theorem dX10_putIntoBasket_19 : decode cX10_putIntoBasket 19 = .ok (.iload_n 3, 1) := by decide +kernel
theorem dX10_putIntoBasket_20 : decode cX10_putIntoBasket 20 = .ok (.invokevirtual 106, 3) := by decide +kernel
theorem dX10_putIntoBasket_23 : decode cX10_putIntoBasket 23 = .ok (.invokevirtual 110, 3) := by decide +kernel
theorem dX10_putIntoBasket_26 : decode cX10_putIntoBasket 26 = .ok (.aload_n 0, 1) := by decide +kernel
theorem dX10_putIntoBasket_27 : decode cX10_putIntoBasket 27 = .ok (.getfield 21, 3) := by decide +kernel
theorem dX10_putIntoBasket_30 : decode cX10_putIntoBasket 30 = .ok (.dup, 1) := by decide +kernel
theorem dX10_putIntoBasket_31 : decode cX10_putIntoBasket 31 = .ok (.getfield 113, 3) := by decide +kernel
theorem dX10_putIntoBasket_34 : decode cX10_putIntoBasket 34 = .ok (.iconst 1, 1) := by decide +kernel
theorem dX10_putIntoBasket_35 : decode cX10_putIntoBasket 35 = .ok (.iadd, 1) := by decide +kernel
theorem dX10_putIntoBasket_36 : decode cX10_putIntoBasket 36 = .ok (.putfield 113, 3) := by decide +kernel
theorem dX10_putIntoBasket_39 : decode cX10_putIntoBasket 39 = .ok (.aload_n 0, 1) := by decide +kernel
theorem dX10_putIntoBasket_40 : decode cX10_putIntoBasket 40 = .ok (.getfield 21, 3) := by decide +kernel
theorem dX10_putIntoBasket_43 : decode cX10_putIntoBasket 43 = .ok (.getfield 56, 3) := by decide +kernel
theorem dX10_putIntoBasket_46 : decode cX10_putIntoBasket 46 = .ok (.aload_n 0, 1) := by decide +kernel
theorem dX10_putIntoBasket_47 : decode cX10_putIntoBasket 47 = .ok (.getfield 21, 3) := by decide +kernel
theorem dX10_putIntoBasket_50 : decode cX10_putIntoBasket 50 = .ok (.getfield 42, 3) := by decide +kernel
theorem dX10_putIntoBasket_53 : decode cX10_putIntoBasket 53 = .ok (.iconst 3, 1) := by decide +kernel
theorem dX10_putIntoBasket_54 : decode cX10_putIntoBasket 54 = .ok (.iload_n 2, 1) := by decide +kernel
theorem dX10_putIntoBasket_55 : decode cX10_putIntoBasket 55 = .ok (.iload_n 3, 1) := by decide +kernel
theorem dX10_putIntoBasket_56 : decode cX10_putIntoBasket 56 = .ok (.invokevirtual 60, 3) := by decide +kernel
theorem dX10_putIntoBasket_59 : decode cX10_putIntoBasket 59 = .ok (.aload_n 0, 1) := by decide +kernel
theorem dX10_putIntoBasket_60 : decode cX10_putIntoBasket 60 = .ok (.getfield 21, 3) := by decide +kernel
theorem dX10_putIntoBasket_63 : decode cX10_putIntoBasket 63 = .ok (.getfield 87, 3) := by decide +kernel
theorem dX10_putIntoBasket_66 : decode cX10_putIntoBasket 66 = .ok (.iload_n 3, 1) := by decide +kernel
theorem dX10_putIntoBasket_67 : decode cX10_putIntoBasket 67 = .ok (.invokevirtual 116, 3) := by decide +kernel
theorem dX10_putIntoBasket_70 : decode cX10_putIntoBasket 70 = .ok (.ireturn, 1) := by decide +kernel
theorem dX10_judge_0 : decode cX10_judge 0 = .ok (.aload_n 0, 1) := by decide +kernel
theorem dX10_judge_1 : decode cX10_judge 1 = .ok (.getfield 21, 3) := by decide +kernel
theorem dX10_judge_4 : decode cX10_judge 4 = .ok (.getfield 87, 3) := by decide +kernel
theorem dX10_judge_7 : decode cX10_judge 7 = .ok (.iload_n 2, 1) := by decide +kernel
theorem dX10_judge_8 : decode cX10_judge 8 = .ok (.invokevirtual 119, 3) := by decide +kernel
theorem dX10_judge_11 : decode cX10_judge 11 = .ok (.istore_n 3, 1) := by decide +kernel
theorem dX10_judge_12 : decode cX10_judge 12 = .ok (.iload_n 3, 1) := by decide +kernel
theorem dX10_judge_13 : decode cX10_judge 13 = .ok (.ifCond .ne 46, 3) := by decide +kernel
theorem dX10_judge_16 : decode cX10_judge 16 = .ok (.aload_n 0, 1) := by decide +kernel
theorem dX10_judge_17 : decode cX10_judge 17 = .ok (.getfield 21, 3) := by decide +kernel
theorem dX10_judge_20 : decode cX10_judge 20 = .ok (.getfield 46, 3) := by decide +kernel
theorem dX10_judge_23 : decode cX10_judge 23 = .ok (.iload_n 1, 1) := by decide +kernel
theorem dX10_judge_24 : decode cX10_judge 24 = .ok (.invokevirtual 122, 3) := by decide +kernel
theorem dX10_judge_27 : decode cX10_judge 27 = .ok (.aload_n 0, 1) := by decide +kernel
theorem dX10_judge_28 : decode cX10_judge 28 = .ok (.getfield 21, 3) := by decide +kernel
theorem dX10_judge_31 : decode cX10_judge 31 = .ok (.getfield 56, 3) := by decide +kernel
theorem dX10_judge_34 : decode cX10_judge 34 = .ok (.aload_n 0, 1) := by decide +kernel
theorem dX10_judge_35 : decode cX10_judge 35 = .ok (.getfield 21, 3) := by decide +kernel
theorem dX10_judge_38 : decode cX10_judge 38 = .ok (.getfield 42, 3) := by decide +kernel
theorem dX10_judge_41 : decode cX10_judge 41 = .ok (.iconst 5, 1) := by decide +kernel
theorem dX10_judge_42 : decode cX10_judge 42 = .ok (.iload_n 1, 1) := by decide +kernel
theorem dX10_judge_43 : decode cX10_judge 43 = .ok (.aload_n 0, 1) := by decide +kernel
theorem dX10_judge_44 : decode cX10_judge 44 = .ok (.getfield 21, 3) := by decide +kernel
theorem dX10_judge_47 : decode cX10_judge 47 = .ok (.getfield 46, 3) := by decide +kernel
theorem dX10_judge_50 : decode cX10_judge 50 = .ok (.iload_n 1, 1) := by decide +kernel
theorem dX10_judge_51 : decode cX10_judge 51 = .ok (.invokevirtual 125, 3) := by decide +kernel
theorem dX10_judge_54 : decode cX10_judge 54 = .ok (.invokevirtual 60, 3) := by decide +kernel
theorem dX10_judge_57 : decode cX10_judge 57 = .ok (.iconst 0, 1) := by decide +kernel
theorem dX10_judge_58 : decode cX10_judge 58 = .ok (.ireturn, 1) := by decide +kernel
theorem dX10_judge_59 : decode cX10_judge 59 = .ok (.aload_n 0, 1) := by decide +kernel
theorem dX10_judge_60 : decode cX10_judge 60 = .ok (.invokevirtual 128, 3) := by decide +kernel
theorem dX10_judge_63 : decode cX10_judge 63 = .ok (.istore 4, 2) := by decide +kernel
theorem dX10_judge_65 : decode cX10_judge 65 = .ok (.aload_n 0, 1) := by decide +kernel
theorem dX10_judge_66 : decode cX10_judge 66 = .ok (.iload_n 2, 1) := by decide +kernel
theorem dX10_judge_67 : decode cX10_judge 67 = .ok (.invokevirtual 131, 3) := by decide +kernel
theorem dX10_judge_70 : decode cX10_judge 70 = .ok (.aload_n 0, 1) := by decide +kernel
theorem dX10_judge_71 : decode cX10_judge 71 = .ok (.iload 4, 2) := by decide +kernel
theorem dX10_judge_73 : decode cX10_judge 73 = .ok (.invokevirtual 134, 3) := by decide +kernel
theorem dX10_judge_76 : decode cX10_judge 76 = .ok (.iload_n 3, 1) := by decide +kernel
theorem dX10_judge_77 : decode cX10_judge 77 = .ok (.ireturn, 1) := by decide +kernel
theorem dX10_strikeAllWrong_0 : decode cX10_strikeAllWrong 0 = .ok (.aload_n 0, 1) := by decide +kernel
theorem dX10_strikeAllWrong_1 : decode cX10_strikeAllWrong 1 = .ok (.invokevirtual 128, 3) := by decide +kernel
theorem dX10_strikeAllWrong_4 : decode cX10_strikeAllWrong 4 = .ok (.istore_n 1, 1) := by decide +kernel
theorem dX10_strikeAllWrong_5 : decode cX10_strikeAllWrong 5 = .ok (.iconst 0, 1) := by decide +kernel
theorem dX10_strikeAllWrong_6 : decode cX10_strikeAllWrong 6 = .ok (.istore_n 2, 1) := by decide +kernel
theorem dX10_strikeAllWrong_7 : decode cX10_strikeAllWrong 7 = .ok (.iconst 0, 1) := by decide +kernel
theorem dX10_strikeAllWrong_8 : decode cX10_strikeAllWrong 8 = .ok (.istore_n 3, 1) := by decide +kernel
theorem dX10_strikeAllWrong_9 : decode cX10_strikeAllWrong 9 = .ok (.iload_n 3, 1) := by decide +kernel
theorem dX10_strikeAllWrong_10 : decode cX10_strikeAllWrong 10 = .ok (.bipush 20, 2) := by decide +kernel
theorem dX10_strikeAllWrong_12 : decode cX10_strikeAllWrong 12 = .ok (.if_icmp .ge 34, 3) := by decide +kernel
theorem dX10_strikeAllWrong_15 : decode cX10_strikeAllWrong 15 = .ok (.aload_n 0, 1) := by decide +kernel
theorem dX10_strikeAllWrong_16 : decode cX10_strikeAllWrong 16 = .ok (.getfield 21, 3) := by decide +kernel
theorem dX10_strikeAllWrong_19 : decode cX10_strikeAllWrong 19 = .ok (.getfield 87, 3) := by decide +kernel
theorem dX10_strikeAllWrong_22 : decode cX10_strikeAllWrong 22 = .ok (.iload_n 3, 1) := by decide +kernel
theorem dX10_strikeAllWrong_23 : decode cX10_strikeAllWrong 23 = .ok (.invokevirtual 137, 3) := by decide +kernel
theorem dX10_strikeAllWrong_26 : decode cX10_strikeAllWrong 26 = .ok (.ifCond .ne 6, 3) := by decide +kernel
theorem dX10_strikeAllWrong_29 : decode cX10_strikeAllWrong 29 = .ok (.goto 11, 3) := by decide +kernel
theorem dX10_strikeAllWrong_32 : decode cX10_strikeAllWrong 32 = .ok (.aload_n 0, 1) := by decide +kernel
theorem dX10_strikeAllWrong_33 : decode cX10_strikeAllWrong 33 = .ok (.iload_n 3, 1) := by decide +kernel
theorem dX10_strikeAllWrong_34 : decode cX10_strikeAllWrong 34 = .ok (.invokevirtual 131, 3) := by decide +kernel
theorem dX10_strikeAllWrong_37 : decode cX10_strikeAllWrong 37 = .ok (.iinc 2 1, 3) := by decide +kernel
theorem dX10_strikeAllWrong_40 : decode cX10_strikeAllWrong 40 = .ok (.iinc 3 1, 3) := by decide +kernel
theorem dX10_strikeAllWrong_43 : decode cX10_strikeAllWrong 43 = .ok (.goto (-34), 3) := by decide +kernel
theorem dX10_strikeAllWrong_46 : decode cX10_strikeAllWrong 46 = .ok (.aload_n 0, 1) := by decide +kernel
theorem dX10_strikeAllWrong_47 : decode cX10_strikeAllWrong 47 = .ok (.getfield 21, 3) := by decide +kernel
theorem dX10_strikeAllWrong_50 : decode cX10_strikeAllWrong 50 = .ok (.dup, 1) := by decide +kernel
theorem dX10_strikeAllWrong_51 : decode cX10_strikeAllWrong 51 = .ok (.getfield 140, 3) := by decide +kernel
theorem dX10_strikeAllWrong_54 : decode cX10_strikeAllWrong 54 = .ok (.iconst 1, 1) := by decide +kernel
theorem dX10_strikeAllWrong_55 : decode cX10_strikeAllWrong 55 = .ok (.iadd, 1) := by decide +kernel
theorem dX10_strikeAllWrong_56 : decode cX10_strikeAllWrong 56 = .ok (.putfield 140, 3) := by decide +kernel
theorem dX10_strikeAllWrong_59 : decode cX10_strikeAllWrong 59 = .ok (.aload_n 0, 1) := by decide +kernel
theorem dX10_strikeAllWrong_60 : decode cX10_strikeAllWrong 60 = .ok (.iload_n 1, 1) := by decide +kernel
theorem dX10_strikeAllWrong_61 : decode cX10_strikeAllWrong 61 = .ok (.invokevirtual 134, 3) := by decide +kernel
theorem dX10_strikeAllWrong_64 : decode cX10_strikeAllWrong 64 = .ok (.iload_n 2, 1) := by decide +kernel
theorem dX10_strikeAllWrong_65 : decode cX10_strikeAllWrong 65 = .ok (.ireturn, 1) := by decide +kernel
theorem dX10_strike_0 : decode cX10_strike 0 = .ok (.aload_n 0, 1) := by decide +kernel
theorem dX10_strike_1 : decode cX10_strike 1 = .ok (.getfield 21, 3) := by decide +kernel
theorem dX10_strike_4 : decode cX10_strike 4 = .ok (.getfield 87, 3) := by decide +kernel
theorem dX10_strike_7 : decode cX10_strike 7 = .ok (.iload_n 1, 1) := by decide +kernel
theorem dX10_strike_8 : decode cX10_strike 8 = .ok (.invokevirtual 143, 3) := by decide +kernel
theorem dX10_strike_11 : decode cX10_strike 11 = .ok (.aload_n 0, 1) := by decide +kernel
theorem dX10_strike_12 : decode cX10_strike 12 = .ok (.getfield 21, 3) := by decide +kernel
theorem dX10_strike_15 : decode cX10_strike 15 = .ok (.getfield 56, 3) := by decide +kernel
theorem dX10_strike_18 : decode cX10_strike 18 = .ok (.aload_n 0, 1) := by decide +kernel
theorem dX10_strike_19 : decode cX10_strike 19 = .ok (.getfield 21, 3) := by decide +kernel
theorem dX10_strike_22 : decode cX10_strike 22 = .ok (.getfield 42, 3) := by decide +kernel
theorem dX10_strike_25 : decode cX10_strike 25 = .ok (.iconst 4, 1) := by decide +kernel
theorem dX10_strike_26 : decode cX10_strike 26 = .ok (.iload_n 1, 1) := by decide +kernel
theorem dX10_strike_27 : decode cX10_strike 27 = .ok (.aload_n 0, 1) := by decide +kernel
theorem dX10_strike_28 : decode cX10_strike 28 = .ok (.getfield 21, 3) := by decide +kernel
theorem dX10_strike_31 : decode cX10_strike 31 = .ok (.getfield 87, 3) := by decide +kernel
theorem dX10_strike_34 : decode cX10_strike 34 = .ok (.iload_n 1, 1) := by decide +kernel
theorem dX10_strike_35 : decode cX10_strike 35 = .ok (.invokevirtual 119, 3) := by decide +kernel
theorem dX10_strike_38 : decode cX10_strike 38 = .ok (.invokevirtual 60, 3) := by decide +kernel
theorem dX10_strike_41 : decode cX10_strike 41 = .ok (.return_, 1) := by decide +kernel
theorem dX10_correctResult_0 : decode cX10_correctResult 0 = .ok (.aload_n 0, 1) := by decide +kernel
theorem dX10_correctResult_1 : decode cX10_correctResult 1 = .ok (.getfield 21, 3) := by decide +kernel
theorem dX10_correctResult_4 : decode cX10_correctResult 4 = .ok (.getfield 144, 3) := by decide +kernel
theorem dX10_correctResult_7 : decode cX10_correctResult 7 = .ok (.ifCond .eq 4, 3) := by decide +kernel
theorem dX10_correctResult_10 : decode cX10_correctResult 10 = .ok (.return_, 1) := by decide +kernel
theorem dX10_correctResult_11 : decode cX10_correctResult 11 = .ok (.aload_n 0, 1) := by decide +kernel
theorem dX10_correctResult_12 : decode cX10_correctResult 12 = .ok (.aload_n 0, 1) := by decide +kernel
theorem dX10_correctResult_13 : decode cX10_correctResult 13 = .ok (.getfield 21, 3) := by decide +kernel
theorem dX10_correctResult_16 : decode cX10_correctResult 16 = .ok (.getfield 148, 3) := by decide +kernel
theorem dX10_correctResult_19 : decode cX10_correctResult 19 = .ok (.invokevirtual 151, 3) := by decide +kernel
theorem dX10_correctResult_22 : decode cX10_correctResult 22 = .ok (.istore_n 2, 1) := by decide +kernel
theorem dX10_correctResult_23 : decode cX10_correctResult 23 = .ok (.aload_n 0, 1) := by decide +kernel
theorem dX10_correctResult_24 : decode cX10_correctResult 24 = .ok (.getfield 21, 3) := by decide +kernel
theorem dX10_correctResult_27 : decode cX10_correctResult 27 = .ok (.getfield 154, 3) := by decide +kernel
theorem dX10_correctResult_30 : decode cX10_correctResult 30 = .ok (.aload_n 0, 1) := by decide +kernel
theorem dX10_correctResult_31 : decode cX10_correctResult 31 = .ok (.invokevirtual 103, 3) := by decide +kernel
theorem dX10_correctResult_34 : decode cX10_correctResult 34 = .ok (.iconst 1, 1) := by decide +kernel
theorem dX10_correctResult_35 : decode cX10_correctResult 35 = .ok (.aload_n 0, 1) := by decide +kernel
theorem dX10_correctResult_36 : decode cX10_correctResult 36 = .ok (.getfield 21, 3) := by decide +kernel
theorem dX10_correctResult_39 : decode cX10_correctResult 39 = .ok (.getfield 87, 3) := by decide +kernel
theorem dX10_correctResult_42 : decode cX10_correctResult 42 = .ok (.invokevirtual 157, 3) := by decide +kernel
theorem dX10_correctResult_45 : decode cX10_correctResult 45 = .ok (.invokevirtual 160, 3) := by decide +kernel
theorem dX10_correctResult_48 : decode cX10_correctResult 48 = .ok (.aload_n 0, 1) := by decide +kernel
theorem dX10_correctResult_49 : decode cX10_correctResult 49 = .ok (.getfield 21, 3) := by decide +kernel
theorem dX10_correctResult_52 : decode cX10_correctResult 52 = .ok (.getfield 154, 3) := by decide +kernel
theorem dX10_correctResult_55 : decode cX10_correctResult 55 = .ok (.aload_n 0, 1) := by decide +kernel
theorem dX10_correctResult_56 : decode cX10_correctResult 56 = .ok (.invokevirtual 103, 3) := by decide +kernel
theorem dX10_correctResult_59 : decode cX10_correctResult 59 = .ok (.iconst 3, 1) := by decide +kernel
theorem dX10_correctResult_60 : decode cX10_correctResult 60 = .ok (.iload_n 2, 1) := by decide +kernel
theorem dX10_correctResult_61 : decode cX10_correctResult 61 = .ok (.invokevirtual 160, 3) := by decide +kernel
theorem dX10_correctResult_64 : decode cX10_correctResult 64 = .ok (.iload_n 2, 1) := by decide +kernel
theorem dX10_correctResult_65 : decode cX10_correctResult 65 = .ok (.iload_n 1, 1) := by decide +kernel
theorem dX10_correctResult_66 : decode cX10_correctResult 66 = .ok (.if_icmp .eq 30, 3) := by decide +kernel
theorem dX10_correctResult_69 : decode cX10_correctResult 69 = .ok (.aload_n 0, 1) := by decide +kernel
theorem dX10_correctResult_70 : decode cX10_correctResult 70 = .ok (.getfield 21, 3) := by decide +kernel
theorem dX10_correctResult_73 : decode cX10_correctResult 73 = .ok (.getfield 56, 3) := by decide +kernel
theorem dX10_correctResult_76 : decode cX10_correctResult 76 = .ok (.aload_n 0, 1) := by decide +kernel
theorem dX10_correctResult_77 : decode cX10_correctResult 77 = .ok (.getfield 21, 3) := by decide +kernel
theorem dX10_correctResult_80 : decode cX10_correctResult 80 = .ok (.getfield 42, 3) := by decide +kernel
theorem dX10_correctResult_83 : decode cX10_correctResult 83 = .ok (.bipush 7, 2) := by decide +kernel
theorem dX10_correctResult_85 : decode cX10_correctResult 85 = .ok (.aload_n 0, 1) := by decide +kernel
theorem dX10_correctResult_86 : decode cX10_correctResult 86 = .ok (.invokevirtual 103, 3) := by decide +kernel
theorem dX10_correctResult_89 : decode cX10_correctResult 89 = .ok (.iload_n 2, 1) := by decide +kernel
theorem dX10_correctResult_90 : decode cX10_correctResult 90 = .ok (.invokestatic 164, 3) := by decide +kernel
theorem dX10_correctResult_93 : decode cX10_correctResult 93 = .ok (.invokevirtual 60, 3) := by decide +kernel
theorem dX10_correctResult_96 : decode cX10_correctResult 96 = .ok (.return_, 1) := by decide +kernel
theorem dX10_endVote_0 : decode cX10_endVote 0 = .ok (.aload_n 0, 1) := by decide +kernel
theorem dX10_endVote_1 : decode cX10_endVote 1 = .ok (.getfield 21, 3) := by decide +kernel
theorem dX10_endVote_4 : decode cX10_endVote 4 = .ok (.aload_n 0, 1) := by decide +kernel
theorem dX10_endVote_5 : decode cX10_endVote 5 = .ok (.invokevirtual 167, 3) := by decide +kernel
theorem dX10_endVote_8 : decode cX10_endVote 8 = .ok (.putfield 148, 3) := by decide +kernel
theorem dX10_endVote_11 : decode cX10_endVote 11 = .ok (.aload_n 0, 1) := by decide +kernel
theorem dX10_endVote_12 : decode cX10_endVote 12 = .ok (.getfield 21, 3) := by decide +kernel
theorem dX10_endVote_15 : decode cX10_endVote 15 = .ok (.aload_n 0, 1) := by decide +kernel
theorem dX10_endVote_16 : decode cX10_endVote 16 = .ok (.getfield 21, 3) := by decide +kernel
theorem dX10_endVote_19 : decode cX10_endVote 19 = .ok (.getfield 42, 3) := by decide +kernel
theorem dX10_endVote_22 : decode cX10_endVote 22 = .ok (.putfield 170, 3) := by decide +kernel
theorem dX10_endVote_25 : decode cX10_endVote 25 = .ok (.aload_n 0, 1) := by decide +kernel
theorem dX10_endVote_26 : decode cX10_endVote 26 = .ok (.getfield 21, 3) := by decide +kernel
theorem dX10_endVote_29 : decode cX10_endVote 29 = .ok (.iconst 0, 1) := by decide +kernel
theorem dX10_endVote_30 : decode cX10_endVote 30 = .ok (.putfield 144, 3) := by decide +kernel
theorem dX10_endVote_33 : decode cX10_endVote 33 = .ok (.aload_n 0, 1) := by decide +kernel
theorem dX10_endVote_34 : decode cX10_endVote 34 = .ok (.getfield 21, 3) := by decide +kernel
theorem dX10_endVote_37 : decode cX10_endVote 37 = .ok (.getfield 87, 3) := by decide +kernel
theorem dX10_endVote_40 : decode cX10_endVote 40 = .ok (.invokevirtual 157, 3) := by decide +kernel
theorem dX10_endVote_43 : decode cX10_endVote 43 = .ok (.istore_n 1, 1) := by decide +kernel
theorem dX10_endVote_44 : decode cX10_endVote 44 = .ok (.aload_n 0, 1) := by decide +kernel
theorem dX10_endVote_45 : decode cX10_endVote 45 = .ok (.aload_n 0, 1) := by decide +kernel
theorem dX10_endVote_46 : decode cX10_endVote 46 = .ok (.getfield 21, 3) := by decide +kernel
theorem dX10_endVote_49 : decode cX10_endVote 49 = .ok (.getfield 148, 3) := by decide +kernel
theorem dX10_endVote_52 : decode cX10_endVote 52 = .ok (.invokevirtual 151, 3) := by decide +kernel
theorem dX10_endVote_55 : decode cX10_endVote 55 = .ok (.istore_n 2, 1) := by decide +kernel
theorem dX10_endVote_56 : decode cX10_endVote 56 = .ok (.aload_n 0, 1) := by decide +kernel
theorem dX10_endVote_57 : decode cX10_endVote 57 = .ok (.getfield 21, 3) := by decide +kernel
theorem dX10_endVote_60 : decode cX10_endVote 60 = .ok (.getfield 154, 3) := by decide +kernel
theorem dX10_endVote_63 : decode cX10_endVote 63 = .ok (.aload_n 0, 1) := by decide +kernel
theorem dX10_endVote_64 : decode cX10_endVote 64 = .ok (.getfield 21, 3) := by decide +kernel
theorem dX10_endVote_67 : decode cX10_endVote 67 = .ok (.getfield 42, 3) := by decide +kernel
theorem dX10_endVote_70 : decode cX10_endVote 70 = .ok (.iload_n 1, 1) := by decide +kernel
theorem dX10_endVote_71 : decode cX10_endVote 71 = .ok (.aload_n 0, 1) := by decide +kernel
theorem dX10_endVote_72 : decode cX10_endVote 72 = .ok (.getfield 21, 3) := by decide +kernel
theorem dX10_endVote_75 : decode cX10_endVote 75 = .ok (.getfield 148, 3) := by decide +kernel
theorem dX10_endVote_78 : decode cX10_endVote 78 = .ok (.iload_n 2, 1) := by decide +kernel
theorem dX10_endVote_79 : decode cX10_endVote 79 = .ok (.invokevirtual 60, 3) := by decide +kernel
theorem dX10_endVote_82 : decode cX10_endVote 82 = .ok (.aload_n 0, 1) := by decide +kernel
theorem dX10_endVote_83 : decode cX10_endVote 83 = .ok (.getfield 21, 3) := by decide +kernel
theorem dX10_endVote_86 : decode cX10_endVote 86 = .ok (.getfield 56, 3) := by decide +kernel
theorem dX10_endVote_89 : decode cX10_endVote 89 = .ok (.aload_n 0, 1) := by decide +kernel
theorem dX10_endVote_90 : decode cX10_endVote 90 = .ok (.getfield 21, 3) := by decide +kernel
theorem dX10_endVote_93 : decode cX10_endVote 93 = .ok (.getfield 42, 3) := by decide +kernel
theorem dX10_endVote_96 : decode cX10_endVote 96 = .ok (.bipush 6, 2) := by decide +kernel
theorem dX10_endVote_98 : decode cX10_endVote 98 = .ok (.aload_n 0, 1) := by decide +kernel
theorem dX10_endVote_99 : decode cX10_endVote 99 = .ok (.invokevirtual 103, 3) := by decide +kernel
theorem dX10_endVote_102 : decode cX10_endVote 102 = .ok (.iload_n 2, 1) := by decide +kernel
theorem dX10_endVote_103 : decode cX10_endVote 103 = .ok (.invokestatic 164, 3) := by decide +kernel
theorem dX10_endVote_106 : decode cX10_endVote 106 = .ok (.invokevirtual 60, 3) := by decide +kernel
theorem dX10_endVote_109 : decode cX10_endVote 109 = .ok (.iload_n 1, 1) := by decide +kernel
theorem dX10_endVote_110 : decode cX10_endVote 110 = .ok (.ireturn, 1) := by decide +kernel
theorem dX10_inLog_0 : decode cX10_inLog 0 = .ok (.iload_n 0, 1) := by decide +kernel
theorem dX10_inLog_1 : decode cX10_inLog 1 = .ok (.bipush (-2), 2) := by decide +kernel
theorem dX10_inLog_3 : decode cX10_inLog 3 = .ok (.if_icmp .ne 7, 3) := by decide +kernel
theorem dX10_inLog_6 : decode cX10_inLog 6 = .ok (.iconst (-1), 1) := by decide +kernel
theorem dX10_inLog_7 : decode cX10_inLog 7 = .ok (.goto 4, 3) := by decide +kernel
theorem dX10_inLog_10 : decode cX10_inLog 10 = .ok (.iload_n 0, 1) := by decide +kernel
theorem dX10_inLog_11 : decode cX10_inLog 11 = .ok (.ireturn, 1) := by decide +kernel
theorem dX10_latestVote_0 : decode cX10_latestVote 0 = .ok (.aload_n 0, 1) := by decide +kernel
theorem dX10_latestVote_1 : decode cX10_latestVote 1 = .ok (.getfield 21, 3) := by decide +kernel
theorem dX10_latestVote_4 : decode cX10_latestVote 4 = .ok (.getfield 100, 3) := by decide +kernel
theorem dX10_latestVote_7 : decode cX10_latestVote 7 = .ok (.iconst 1, 1) := by decide +kernel
theorem dX10_latestVote_8 : decode cX10_latestVote 8 = .ok (.isub, 1) := by decide +kernel
theorem dX10_latestVote_9 : decode cX10_latestVote 9 = .ok (.ireturn, 1) := by decide +kernel
theorem dX10_isVoteOpen_0 : decode cX10_isVoteOpen 0 = .ok (.aload_n 0, 1) := by decide +kernel
theorem dX10_isVoteOpen_1 : decode cX10_isVoteOpen 1 = .ok (.getfield 21, 3) := by decide +kernel
theorem dX10_isVoteOpen_4 : decode cX10_isVoteOpen 4 = .ok (.getfield 144, 3) := by decide +kernel
theorem dX10_isVoteOpen_7 : decode cX10_isVoteOpen 7 = .ok (.ireturn, 1) := by decide +kernel
theorem dX10_stateOfVote_0 : decode cX10_stateOfVote 0 = .ok (.aload_n 0, 1) := by decide +kernel
theorem dX10_stateOfVote_1 : decode cX10_stateOfVote 1 = .ok (.getfield 21, 3) := by decide +kernel
theorem dX10_stateOfVote_4 : decode cX10_stateOfVote 4 = .ok (.getfield 100, 3) := by decide +kernel
theorem dX10_stateOfVote_7 : decode cX10_stateOfVote 7 = .ok (.ifCond .ne 5, 3) := by decide +kernel
theorem dX10_stateOfVote_10 : decode cX10_stateOfVote 10 = .ok (.iconst 0, 1) := by decide +kernel
theorem dX10_stateOfVote_11 : decode cX10_stateOfVote 11 = .ok (.ireturn, 1) := by decide +kernel
theorem dX10_stateOfVote_12 : decode cX10_stateOfVote 12 = .ok (.aload_n 0, 1) := by decide +kernel
theorem dX10_stateOfVote_13 : decode cX10_stateOfVote 13 = .ok (.getfield 21, 3) := by decide +kernel
theorem dX10_stateOfVote_16 : decode cX10_stateOfVote 16 = .ok (.getfield 144, 3) := by decide +kernel
theorem dX10_stateOfVote_19 : decode cX10_stateOfVote 19 = .ok (.ifCond .eq 5, 3) := by decide +kernel
theorem dX10_stateOfVote_22 : decode cX10_stateOfVote 22 = .ok (.iconst 1, 1) := by decide +kernel
theorem dX10_stateOfVote_23 : decode cX10_stateOfVote 23 = .ok (.ireturn, 1) := by decide +kernel
theorem dX10_stateOfVote_24 : decode cX10_stateOfVote 24 = .ok (.aload_n 0, 1) := by decide +kernel
theorem dX10_stateOfVote_25 : decode cX10_stateOfVote 25 = .ok (.getfield 21, 3) := by decide +kernel
theorem dX10_stateOfVote_28 : decode cX10_stateOfVote 28 = .ok (.getfield 42, 3) := by decide +kernel
theorem dX10_stateOfVote_31 : decode cX10_stateOfVote 31 = .ok (.aload_n 0, 1) := by decide +kernel
theorem dX10_stateOfVote_32 : decode cX10_stateOfVote 32 = .ok (.getfield 21, 3) := by decide +kernel
theorem dX10_stateOfVote_35 : decode cX10_stateOfVote 35 = .ok (.getfield 170, 3) := by decide +kernel
theorem dX10_stateOfVote_38 : decode cX10_stateOfVote 38 = .ok (.aload_n 0, 1) := by decide +kernel
theorem dX10_stateOfVote_39 : decode cX10_stateOfVote 39 = .ok (.getfield 12, 3) := by decide +kernel
theorem dX10_stateOfVote_42 : decode cX10_stateOfVote 42 = .ok (.bipush 8, 2) := by decide +kernel
theorem dX10_stateOfVote_44 : decode cX10_stateOfVote 44 = .ok (.invokevirtual 173, 3) := by decide +kernel
theorem dX10_stateOfVote_47 : decode cX10_stateOfVote 47 = .ok (.iadd, 1) := by decide +kernel
theorem dX10_stateOfVote_48 : decode cX10_stateOfVote 48 = .ok (.if_icmp .gt 7, 3) := by decide +kernel
theorem dX10_stateOfVote_51 : decode cX10_stateOfVote 51 = .ok (.iconst 2, 1) := by decide +kernel
theorem dX10_stateOfVote_52 : decode cX10_stateOfVote 52 = .ok (.goto 4, 3) := by decide +kernel
theorem dX10_stateOfVote_55 : decode cX10_stateOfVote 55 = .ok (.iconst 3, 1) := by decide +kernel
theorem dX10_stateOfVote_56 : decode cX10_stateOfVote 56 = .ok (.ireturn, 1) := by decide +kernel
theorem dX10_seasonOn_0 : decode cX10_seasonOn 0 = .ok (.aload_n 0, 1) := by decide +kernel
theorem dX10_seasonOn_1 : decode cX10_seasonOn 1 = .ok (.getfield 12, 3) := by decide +kernel
theorem dX10_seasonOn_4 : decode cX10_seasonOn 4 = .ok (.iconst 0, 1) := by decide +kernel
theorem dX10_seasonOn_5 : decode cX10_seasonOn 5 = .ok (.invokevirtual 173, 3) := by decide +kernel
theorem dX10_seasonOn_8 : decode cX10_seasonOn 8 = .ok (.istore_n 2, 1) := by decide +kernel
theorem dX10_seasonOn_9 : decode cX10_seasonOn 9 = .ok (.iload_n 2, 1) := by decide +kernel
theorem dX10_seasonOn_10 : decode cX10_seasonOn 10 = .ok (.iconst 1, 1) := by decide +kernel
theorem dX10_seasonOn_11 : decode cX10_seasonOn 11 = .ok (.if_icmp .ge 7, 3) := by decide +kernel
theorem dX10_seasonOn_14 : decode cX10_seasonOn 14 = .ok (.iconst 0, 1) := by decide +kernel
theorem dX10_seasonOn_15 : decode cX10_seasonOn 15 = .ok (.goto 10, 3) := by decide +kernel
theorem dX10_seasonOn_18 : decode cX10_seasonOn 18 = .ok (.iload_n 1, 1) := by decide +kernel
theorem dX10_seasonOn_19 : decode cX10_seasonOn 19 = .ok (.iload_n 2, 1) := by decide +kernel
theorem dX10_seasonOn_20 : decode cX10_seasonOn 20 = .ok (.idiv, 1) := by decide +kernel
theorem dX10_seasonOn_21 : decode cX10_seasonOn 21 = .ok (.iconst 4, 1) := by decide +kernel
theorem dX10_seasonOn_22 : decode cX10_seasonOn 22 = .ok (.invokestatic 176, 3) := by decide +kernel
theorem dX10_seasonOn_25 : decode cX10_seasonOn 25 = .ok (.ireturn, 1) := by decide +kernel
theorem dX10_homeDayOf_0 : decode cX10_homeDayOf 0 = .ok (.aload_n 0, 1) := by decide +kernel
theorem dX10_homeDayOf_1 : decode cX10_homeDayOf 1 = .ok (.getfield 21, 3) := by decide +kernel
theorem dX10_homeDayOf_4 : decode cX10_homeDayOf 4 = .ok (.getfield 46, 3) := by decide +kernel
theorem dX10_homeDayOf_7 : decode cX10_homeDayOf 7 = .ok (.iload_n 1, 1) := by decide +kernel
theorem dX10_homeDayOf_8 : decode cX10_homeDayOf 8 = .ok (.invokevirtual 181, 3) := by decide +kernel
theorem dX10_homeDayOf_11 : decode cX10_homeDayOf 11 = .ok (.ifCond .ne 11, 3) := by decide +kernel
theorem dX10_homeDayOf_14 : decode cX10_homeDayOf 14 = .ok (.aload_n 0, 1) := by decide +kernel
theorem dX10_homeDayOf_15 : decode cX10_homeDayOf 15 = .ok (.getfield 21, 3) := by decide +kernel
theorem dX10_homeDayOf_18 : decode cX10_homeDayOf 18 = .ok (.getfield 42, 3) := by decide +kernel
theorem dX10_homeDayOf_21 : decode cX10_homeDayOf 21 = .ok (.ireturn, 1) := by decide +kernel
theorem dX10_homeDayOf_22 : decode cX10_homeDayOf 22 = .ok (.aload_n 0, 1) := by decide +kernel
theorem dX10_homeDayOf_23 : decode cX10_homeDayOf 23 = .ok (.getfield 21, 3) := by decide +kernel
theorem dX10_homeDayOf_26 : decode cX10_homeDayOf 26 = .ok (.getfield 46, 3) := by decide +kernel
theorem dX10_homeDayOf_29 : decode cX10_homeDayOf 29 = .ok (.aload_n 0, 1) := by decide +kernel
theorem dX10_homeDayOf_30 : decode cX10_homeDayOf 30 = .ok (.getfield 21, 3) := by decide +kernel
theorem dX10_homeDayOf_33 : decode cX10_homeDayOf 33 = .ok (.getfield 46, 3) := by decide +kernel
theorem dX10_homeDayOf_36 : decode cX10_homeDayOf 36 = .ok (.iload_n 1, 1) := by decide +kernel
theorem dX10_homeDayOf_37 : decode cX10_homeDayOf 37 = .ok (.invokevirtual 184, 3) := by decide +kernel
theorem dX10_homeDayOf_40 : decode cX10_homeDayOf 40 = .ok (.invokevirtual 81, 3) := by decide +kernel
theorem dX10_homeDayOf_43 : decode cX10_homeDayOf 43 = .ok (.ireturn, 1) := by decide +kernel
theorem dX10_needOf_0 : decode cX10_needOf 0 = .ok (.aload_n 0, 1) := by decide +kernel
theorem dX10_needOf_1 : decode cX10_needOf 1 = .ok (.getfield 12, 3) := by decide +kernel
theorem dX10_needOf_4 : decode cX10_needOf 4 = .ok (.iconst 1, 1) := by decide +kernel
theorem dX10_needOf_5 : decode cX10_needOf 5 = .ok (.aload_n 0, 1) := by decide +kernel
theorem dX10_needOf_6 : decode cX10_needOf 6 = .ok (.iload_n 1, 1) := by decide +kernel
theorem dX10_needOf_7 : decode cX10_needOf 7 = .ok (.invokevirtual 187, 3) := by decide +kernel
theorem dX10_needOf_10 : decode cX10_needOf 10 = .ok (.iadd, 1) := by decide +kernel
theorem dX10_needOf_11 : decode cX10_needOf 11 = .ok (.invokevirtual 173, 3) := by decide +kernel
theorem dX10_needOf_14 : decode cX10_needOf 14 = .ok (.istore_n 3, 1) := by decide +kernel
theorem dX10_needOf_15 : decode cX10_needOf 15 = .ok (.iload_n 3, 1) := by decide +kernel
theorem dX10_needOf_16 : decode cX10_needOf 16 = .ok (.aload_n 0, 1) := by decide +kernel
theorem dX10_needOf_17 : decode cX10_needOf 17 = .ok (.getfield 12, 3) := by decide +kernel
theorem dX10_needOf_20 : decode cX10_needOf 20 = .ok (.invokevirtual 190, 3) := by decide +kernel
theorem dX10_needOf_23 : decode cX10_needOf 23 = .ok (.imul, 1) := by decide +kernel
theorem dX10_needOf_24 : decode cX10_needOf 24 = .ok (.bipush 99, 2) := by decide +kernel
theorem dX10_needOf_26 : decode cX10_needOf 26 = .ok (.iadd, 1) := by decide +kernel
theorem dX10_needOf_27 : decode cX10_needOf 27 = .ok (.bipush 100, 2) := by decide +kernel
theorem dX10_needOf_29 : decode cX10_needOf 29 = .ok (.idiv, 1) := by decide +kernel
theorem dX10_needOf_30 : decode cX10_needOf 30 = .ok (.aload_n 0, 1) := by decide +kernel
theorem dX10_needOf_31 : decode cX10_needOf 31 = .ok (.getfield 12, 3) := by decide +kernel
theorem dX10_needOf_34 : decode cX10_needOf 34 = .ok (.iconst 5, 1) := by decide +kernel
theorem dX10_needOf_35 : decode cX10_needOf 35 = .ok (.invokevirtual 173, 3) := by decide +kernel
theorem dX10_needOf_38 : decode cX10_needOf 38 = .ok (.iload_n 2, 1) := by decide +kernel
theorem dX10_needOf_39 : decode cX10_needOf 39 = .ok (.imul, 1) := by decide +kernel
theorem dX10_needOf_40 : decode cX10_needOf 40 = .ok (.isub, 1) := by decide +kernel
theorem dX10_needOf_41 : decode cX10_needOf 41 = .ok (.istore 4, 2) := by decide +kernel
theorem dX10_needOf_43 : decode cX10_needOf 43 = .ok (.iload 4, 2) := by decide +kernel
theorem dX10_needOf_45 : decode cX10_needOf 45 = .ok (.aload_n 0, 1) := by decide +kernel
theorem dX10_needOf_46 : decode cX10_needOf 46 = .ok (.getfield 12, 3) := by decide +kernel
theorem dX10_needOf_49 : decode cX10_needOf 49 = .ok (.bipush 6, 2) := by decide +kernel
theorem dX10_needOf_51 : decode cX10_needOf 51 = .ok (.invokevirtual 173, 3) := by decide +kernel
theorem dX10_needOf_54 : decode cX10_needOf 54 = .ok (.invokestatic 193, 3) := by decide +kernel
theorem dX10_needOf_57 : decode cX10_needOf 57 = .ok (.ireturn, 1) := by decide +kernel
theorem dX10_needBehind_0 : decode cX10_needBehind 0 = .ok (.aload_n 0, 1) := by decide +kernel
theorem dX10_needBehind_1 : decode cX10_needBehind 1 = .ok (.getfield 21, 3) := by decide +kernel
theorem dX10_needBehind_4 : decode cX10_needBehind 4 = .ok (.getfield 42, 3) := by decide +kernel
theorem dX10_needBehind_7 : decode cX10_needBehind 7 = .ok (.iload_n 1, 1) := by decide +kernel
theorem dX10_needBehind_8 : decode cX10_needBehind 8 = .ok (.iadd, 1) := by decide +kernel
theorem dX10_needBehind_9 : decode cX10_needBehind 9 = .ok (.istore_n 2, 1) := by decide +kernel
theorem dX10_needBehind_10 : decode cX10_needBehind 10 = .ok (.aload_n 0, 1) := by decide +kernel
theorem dX10_needBehind_11 : decode cX10_needBehind 11 = .ok (.iload_n 2, 1) := by decide +kernel
theorem dX10_needBehind_12 : decode cX10_needBehind 12 = .ok (.aload_n 0, 1) := by decide +kernel
theorem dX10_needBehind_13 : decode cX10_needBehind 13 = .ok (.getfield 21, 3) := by decide +kernel
theorem dX10_needBehind_16 : decode cX10_needBehind 16 = .ok (.getfield 46, 3) := by decide +kernel
theorem dX10_needBehind_19 : decode cX10_needBehind 19 = .ok (.iload_n 2, 1) := by decide +kernel
theorem dX10_needBehind_20 : decode cX10_needBehind 20 = .ok (.invokevirtual 196, 3) := by decide +kernel
theorem dX10_needBehind_23 : decode cX10_needBehind 23 = .ok (.invokevirtual 199, 3) := by decide +kernel
theorem dX10_needBehind_26 : decode cX10_needBehind 26 = .ok (.ireturn, 1) := by decide +kernel
theorem dX10_needOfVote_0 : decode cX10_needOfVote 0 = .ok (.aload_n 0, 1) := by decide +kernel
theorem dX10_needOfVote_1 : decode cX10_needOfVote 1 = .ok (.getfield 21, 3) := by decide +kernel
theorem dX10_needOfVote_4 : decode cX10_needOfVote 4 = .ok (.getfield 100, 3) := by decide +kernel
theorem dX10_needOfVote_7 : decode cX10_needOfVote 7 = .ok (.ifCond .le 21, 3) := by decide +kernel
theorem dX10_needOfVote_10 : decode cX10_needOfVote 10 = .ok (.aload_n 0, 1) := by decide +kernel
theorem dX10_needOfVote_11 : decode cX10_needOfVote 11 = .ok (.getfield 21, 3) := by decide +kernel
theorem dX10_needOfVote_14 : decode cX10_needOfVote 14 = .ok (.getfield 144, 3) := by decide +kernel
theorem dX10_needOfVote_17 : decode cX10_needOfVote 17 = .ok (.ifCond .ne 11, 3) := by decide +kernel
theorem dX10_needOfVote_20 : decode cX10_needOfVote 20 = .ok (.aload_n 0, 1) := by decide +kernel
theorem dX10_needOfVote_21 : decode cX10_needOfVote 21 = .ok (.getfield 21, 3) := by decide +kernel
theorem dX10_needOfVote_24 : decode cX10_needOfVote 24 = .ok (.getfield 148, 3) := by decide +kernel
theorem dX10_needOfVote_27 : decode cX10_needOfVote 27 = .ok (.ireturn, 1) := by decide +kernel
theorem dX10_needOfVote_28 : decode cX10_needOfVote 28 = .ok (.aload_n 0, 1) := by decide +kernel
theorem dX10_needOfVote_29 : decode cX10_needOfVote 29 = .ok (.aload_n 0, 1) := by decide +kernel
theorem dX10_needOfVote_30 : decode cX10_needOfVote 30 = .ok (.getfield 21, 3) := by decide +kernel
theorem dX10_needOfVote_33 : decode cX10_needOfVote 33 = .ok (.getfield 42, 3) := by decide +kernel
theorem dX10_needOfVote_36 : decode cX10_needOfVote 36 = .ok (.aload_n 0, 1) := by decide +kernel
theorem dX10_needOfVote_37 : decode cX10_needOfVote 37 = .ok (.getfield 21, 3) := by decide +kernel
theorem dX10_needOfVote_40 : decode cX10_needOfVote 40 = .ok (.getfield 46, 3) := by decide +kernel
theorem dX10_needOfVote_43 : decode cX10_needOfVote 43 = .ok (.invokevirtual 202, 3) := by decide +kernel
theorem dX10_needOfVote_46 : decode cX10_needOfVote 46 = .ok (.invokevirtual 199, 3) := by decide +kernel
theorem dX10_needOfVote_49 : decode cX10_needOfVote 49 = .ok (.ireturn, 1) := by decide +kernel
theorem dX10_bestDayUpTo_0 : decode cX10_bestDayUpTo 0 = .ok (.iconst 0, 1) := by decide +kernel
theorem dX10_bestDayUpTo_1 : decode cX10_bestDayUpTo 1 = .ok (.istore_n 2, 1) := by decide +kernel
theorem dX10_bestDayUpTo_2 : decode cX10_bestDayUpTo 2 = .ok (.aload_n 0, 1) := by decide +kernel
theorem dX10_bestDayUpTo_3 : decode cX10_bestDayUpTo 3 = .ok (.iconst 0, 1) := by decide +kernel
theorem dX10_bestDayUpTo_4 : decode cX10_bestDayUpTo 4 = .ok (.invokevirtual 205, 3) := by decide +kernel
theorem dX10_bestDayUpTo_7 : decode cX10_bestDayUpTo 7 = .ok (.istore_n 3, 1) := by decide +kernel
theorem dX10_bestDayUpTo_8 : decode cX10_bestDayUpTo 8 = .ok (.iconst 1, 1) := by decide +kernel
theorem dX10_bestDayUpTo_9 : decode cX10_bestDayUpTo 9 = .ok (.istore 4, 2) := by decide +kernel
theorem dX10_bestDayUpTo_11 : decode cX10_bestDayUpTo 11 = .ok (.iload 4, 2) := by decide +kernel
theorem dX10_bestDayUpTo_13 : decode cX10_bestDayUpTo 13 = .ok (.iload_n 1, 1) := by decide +kernel
theorem dX10_bestDayUpTo_14 : decode cX10_bestDayUpTo 14 = .ok (.if_icmp .gt 36, 3) := by decide +kernel
theorem dX10_bestDayUpTo_17 : decode cX10_bestDayUpTo 17 = .ok (.iload 4, 2) := by decide +kernel
theorem dX10_bestDayUpTo_19 : decode cX10_bestDayUpTo 19 = .ok (.bipush 99, 2) := by decide +kernel
theorem dX10_bestDayUpTo_21 : decode cX10_bestDayUpTo 21 = .ok (.if_icmp .gt 29, 3) := by decide +kernel
theorem dX10_bestDayUpTo_24 : decode cX10_bestDayUpTo 24 = .ok (.aload_n 0, 1) := by decide +kernel
theorem dX10_bestDayUpTo_25 : decode cX10_bestDayUpTo 25 = .ok (.iload 4, 2) := by decide +kernel
theorem dX10_bestDayUpTo_27 : decode cX10_bestDayUpTo 27 = .ok (.invokevirtual 205, 3) := by decide +kernel
theorem dX10_bestDayUpTo_30 : decode cX10_bestDayUpTo 30 = .ok (.istore 5, 2) := by decide +kernel
theorem dX10_bestDayUpTo_32 : decode cX10_bestDayUpTo 32 = .ok (.iload 5, 2) := by decide +kernel
theorem dX10_bestDayUpTo_34 : decode cX10_bestDayUpTo 34 = .ok (.iload_n 3, 1) := by decide +kernel
theorem dX10_bestDayUpTo_35 : decode cX10_bestDayUpTo 35 = .ok (.if_icmp .le 9, 3) := by decide +kernel
theorem dX10_bestDayUpTo_38 : decode cX10_bestDayUpTo 38 = .ok (.iload 5, 2) := by decide +kernel
theorem dX10_bestDayUpTo_40 : decode cX10_bestDayUpTo 40 = .ok (.istore_n 3, 1) := by decide +kernel
theorem dX10_bestDayUpTo_41 : decode cX10_bestDayUpTo 41 = .ok (.iload 4, 2) := by decide +kernel
theorem dX10_bestDayUpTo_43 : decode cX10_bestDayUpTo 43 = .ok (.istore_n 2, 1) := by decide +kernel
theorem dX10_bestDayUpTo_44 : decode cX10_bestDayUpTo 44 = .ok (.iinc 4 1, 3) := by decide +kernel
theorem dX10_bestDayUpTo_47 : decode cX10_bestDayUpTo 47 = .ok (.goto (-36), 3) := by decide +kernel
theorem dX10_bestDayUpTo_50 : decode cX10_bestDayUpTo 50 = .ok (.iload_n 2, 1) := by decide +kernel
theorem dX10_bestDayUpTo_51 : decode cX10_bestDayUpTo 51 = .ok (.ireturn, 1) := by decide +kernel
theorem dX10_surplusBehind_0 : decode cX10_surplusBehind 0 = .ok (.aload_n 0, 1) := by decide +kernel
theorem dX10_surplusBehind_1 : decode cX10_surplusBehind 1 = .ok (.getfield 12, 3) := by decide +kernel
theorem dX10_surplusBehind_4 : decode cX10_surplusBehind 4 = .ok (.invokevirtual 190, 3) := by decide +kernel
theorem dX10_surplusBehind_7 : decode cX10_surplusBehind 7 = .ok (.aload_n 0, 1) := by decide +kernel
theorem dX10_surplusBehind_8 : decode cX10_surplusBehind 8 = .ok (.getfield 21, 3) := by decide +kernel
theorem dX10_surplusBehind_11 : decode cX10_surplusBehind 11 = .ok (.getfield 46, 3) := by decide +kernel
theorem dX10_surplusBehind_14 : decode cX10_surplusBehind 14 = .ok (.aload_n 0, 1) := by decide +kernel
theorem dX10_surplusBehind_15 : decode cX10_surplusBehind 15 = .ok (.getfield 21, 3) := by decide +kernel
theorem dX10_surplusBehind_18 : decode cX10_surplusBehind 18 = .ok (.getfield 42, 3) := by decide +kernel
theorem dX10_surplusBehind_21 : decode cX10_surplusBehind 21 = .ok (.iload_n 1, 1) := by decide +kernel
theorem dX10_surplusBehind_22 : decode cX10_surplusBehind 22 = .ok (.iadd, 1) := by decide +kernel
theorem dX10_surplusBehind_23 : decode cX10_surplusBehind 23 = .ok (.invokevirtual 208, 3) := by decide +kernel
theorem dX10_surplusBehind_26 : decode cX10_surplusBehind 26 = .ok (.isub, 1) := by decide +kernel
theorem dX10_surplusBehind_27 : decode cX10_surplusBehind 27 = .ok (.istore_n 2, 1) := by decide +kernel
theorem dX10_surplusBehind_28 : decode cX10_surplusBehind 28 = .ok (.iload_n 2, 1) := by decide +kernel
theorem dX10_surplusBehind_29 : decode cX10_surplusBehind 29 = .ok (.aload_n 0, 1) := by decide +kernel
theorem dX10_surplusBehind_30 : decode cX10_surplusBehind 30 = .ok (.iload_n 1, 1) := by decide +kernel
theorem dX10_surplusBehind_31 : decode cX10_surplusBehind 31 = .ok (.invokevirtual 211, 3) := by decide +kernel
theorem dX10_surplusBehind_34 : decode cX10_surplusBehind 34 = .ok (.isub, 1) := by decide +kernel
theorem dX10_surplusBehind_35 : decode cX10_surplusBehind 35 = .ok (.ireturn, 1) := by decide +kernel
theorem dX10_reasonFor_0 : decode cX10_reasonFor 0 = .ok (.iload_n 1, 1) := by decide +kernel
theorem dX10_reasonFor_1 : decode cX10_reasonFor 1 = .ok (.iload_n 2, 1) := by decide +kernel
theorem dX10_reasonFor_2 : decode cX10_reasonFor 2 = .ok (.if_icmp .ne 5, 3) := by decide +kernel
theorem dX10_reasonFor_5 : decode cX10_reasonFor 5 = .ok (.iconst 0, 1) := by decide +kernel
theorem dX10_reasonFor_6 : decode cX10_reasonFor 6 = .ok (.ireturn, 1) := by decide +kernel
theorem dX10_reasonFor_7 : decode cX10_reasonFor 7 = .ok (.aload_n 0, 1) := by decide +kernel
theorem dX10_reasonFor_8 : decode cX10_reasonFor 8 = .ok (.getfield 21, 3) := by decide +kernel
theorem dX10_reasonFor_11 : decode cX10_reasonFor 11 = .ok (.getfield 46, 3) := by decide +kernel
theorem dX10_reasonFor_14 : decode cX10_reasonFor 14 = .ok (.iload_n 2, 1) := by decide +kernel
theorem dX10_reasonFor_15 : decode cX10_reasonFor 15 = .ok (.invokevirtual 181, 3) := by decide +kernel
theorem dX10_reasonFor_18 : decode cX10_reasonFor 18 = .ok (.ifCond .ne 5, 3) := by decide +kernel
theorem dX10_reasonFor_21 : decode cX10_reasonFor 21 = .ok (.iconst 1, 1) := by decide +kernel
theorem dX10_reasonFor_22 : decode cX10_reasonFor 22 = .ok (.ireturn, 1) := by decide +kernel
theorem dX10_reasonFor_23 : decode cX10_reasonFor 23 = .ok (.aload_n 0, 1) := by decide +kernel
theorem dX10_reasonFor_24 : decode cX10_reasonFor 24 = .ok (.getfield 21, 3) := by decide +kernel
theorem dX10_reasonFor_27 : decode cX10_reasonFor 27 = .ok (.getfield 87, 3) := by decide +kernel
theorem dX10_reasonFor_30 : decode cX10_reasonFor 30 = .ok (.iload_n 1, 1) := by decide +kernel
theorem dX10_reasonFor_31 : decode cX10_reasonFor 31 = .ok (.invokevirtual 214, 3) := by decide +kernel
theorem dX10_reasonFor_34 : decode cX10_reasonFor 34 = .ok (.aload_n 0, 1) := by decide +kernel
theorem dX10_reasonFor_35 : decode cX10_reasonFor 35 = .ok (.getfield 12, 3) := by decide +kernel
theorem dX10_reasonFor_38 : decode cX10_reasonFor 38 = .ok (.bipush 7, 2) := by decide +kernel
theorem dX10_reasonFor_40 : decode cX10_reasonFor 40 = .ok (.invokevirtual 173, 3) := by decide +kernel
theorem dX10_reasonFor_43 : decode cX10_reasonFor 43 = .ok (.if_icmp .lt 5, 3) := by decide +kernel
theorem dX10_reasonFor_46 : decode cX10_reasonFor 46 = .ok (.iconst 2, 1) := by decide +kernel
theorem dX10_reasonFor_47 : decode cX10_reasonFor 47 = .ok (.ireturn, 1) := by decide +kernel
theorem dX10_reasonFor_48 : decode cX10_reasonFor 48 = .ok (.aload_n 0, 1) := by decide +kernel
theorem dX10_reasonFor_49 : decode cX10_reasonFor 49 = .ok (.getfield 21, 3) := by decide +kernel
theorem dX10_reasonFor_52 : decode cX10_reasonFor 52 = .ok (.getfield 87, 3) := by decide +kernel
theorem dX10_reasonFor_55 : decode cX10_reasonFor 55 = .ok (.iload_n 2, 1) := by decide +kernel
theorem dX10_reasonFor_56 : decode cX10_reasonFor 56 = .ok (.invokevirtual 217, 3) := by decide +kernel
theorem dX10_reasonFor_59 : decode cX10_reasonFor 59 = .ok (.istore 4, 2) := by decide +kernel
theorem dX10_reasonFor_61 : decode cX10_reasonFor 61 = .ok (.iload 4, 2) := by decide +kernel
theorem dX10_reasonFor_63 : decode cX10_reasonFor 63 = .ok (.bipush (-2), 2) := by decide +kernel
theorem dX10_reasonFor_65 : decode cX10_reasonFor 65 = .ok (.if_icmp .eq 9, 3) := by decide +kernel
theorem dX10_reasonFor_68 : decode cX10_reasonFor 68 = .ok (.iload 4, 2) := by decide +kernel
theorem dX10_reasonFor_70 : decode cX10_reasonFor 70 = .ok (.iload_n 3, 1) := by decide +kernel
theorem dX10_reasonFor_71 : decode cX10_reasonFor 71 = .ok (.if_icmp .ne 7, 3) := by decide +kernel
theorem dX10_reasonFor_74 : decode cX10_reasonFor 74 = .ok (.iconst 0, 1) := by decide +kernel
theorem dX10_reasonFor_75 : decode cX10_reasonFor 75 = .ok (.goto 4, 3) := by decide +kernel
theorem dX10_reasonFor_78 : decode cX10_reasonFor 78 = .ok (.iconst 3, 1) := by decide +kernel
theorem dX10_reasonFor_79 : decode cX10_reasonFor 79 = .ok (.ireturn, 1) := by decide +kernel
theorem dX10_resultNow_0 : decode cX10_resultNow 0 = .ok (.aload_n 0, 1) := by decide +kernel
theorem dX10_resultNow_1 : decode cX10_resultNow 1 = .ok (.aload_n 0, 1) := by decide +kernel
theorem dX10_resultNow_2 : decode cX10_resultNow 2 = .ok (.invokevirtual 167, 3) := by decide +kernel
theorem dX10_resultNow_5 : decode cX10_resultNow 5 = .ok (.invokevirtual 151, 3) := by decide +kernel
theorem dX10_resultNow_8 : decode cX10_resultNow 8 = .ok (.ireturn, 1) := by decide +kernel
theorem dX10_resultFor_0 : decode cX10_resultFor 0 = .ok (.aload_n 0, 1) := by decide +kernel
theorem dX10_resultFor_1 : decode cX10_resultFor 1 = .ok (.getfield 28, 3) := by decide +kernel
theorem dX10_resultFor_4 : decode cX10_resultFor 4 = .ok (.aload_n 0, 1) := by decide +kernel
theorem dX10_resultFor_5 : decode cX10_resultFor 5 = .ok (.getfield 21, 3) := by decide +kernel
theorem dX10_resultFor_8 : decode cX10_resultFor 8 = .ok (.getfield 87, 3) := by decide +kernel
theorem dX10_resultFor_11 : decode cX10_resultFor 11 = .ok (.invokevirtual 220, 3) := by decide +kernel
theorem dX10_resultFor_14 : decode cX10_resultFor 14 = .ok (.aload_n 0, 1) := by decide +kernel
theorem dX10_resultFor_15 : decode cX10_resultFor 15 = .ok (.getfield 28, 3) := by decide +kernel
theorem dX10_resultFor_18 : decode cX10_resultFor 18 = .ok (.iload_n 1, 1) := by decide +kernel
theorem dX10_resultFor_19 : decode cX10_resultFor 19 = .ok (.invokevirtual 224, 3) := by decide +kernel
theorem dX10_resultFor_22 : decode cX10_resultFor 22 = .ok (.ireturn, 1) := by decide +kernel
theorem dX10_resultOfRightOnes_0 : decode cX10_resultOfRightOnes 0 = .ok (.aload_n 0, 1) := by decide +kernel
theorem dX10_resultOfRightOnes_1 : decode cX10_resultOfRightOnes 1 = .ok (.getfield 28, 3) := by decide +kernel
theorem dX10_resultOfRightOnes_4 : decode cX10_resultOfRightOnes 4 = .ok (.aload_n 0, 1) := by decide +kernel
theorem dX10_resultOfRightOnes_5 : decode cX10_resultOfRightOnes 5 = .ok (.getfield 21, 3) := by decide +kernel
theorem dX10_resultOfRightOnes_8 : decode cX10_resultOfRightOnes 8 = .ok (.getfield 87, 3) := by decide +kernel
theorem dX10_resultOfRightOnes_11 : decode cX10_resultOfRightOnes 11 = .ok (.invokevirtual 220, 3) := by decide +kernel
theorem dX10_resultOfRightOnes_14 : decode cX10_resultOfRightOnes 14 = .ok (.iconst 0, 1) := by decide +kernel
theorem dX10_resultOfRightOnes_15 : decode cX10_resultOfRightOnes 15 = .ok (.istore_n 1, 1) := by decide +kernel
theorem dX10_resultOfRightOnes_16 : decode cX10_resultOfRightOnes 16 = .ok (.iload_n 1, 1) := by decide +kernel
theorem dX10_resultOfRightOnes_17 : decode cX10_resultOfRightOnes 17 = .ok (.bipush 20, 2) := by decide +kernel
theorem dX10_resultOfRightOnes_19 : decode cX10_resultOfRightOnes 19 = .ok (.if_icmp .ge 31, 3) := by decide +kernel
theorem dX10_resultOfRightOnes_22 : decode cX10_resultOfRightOnes 22 = .ok (.aload_n 0, 1) := by decide +kernel
theorem dX10_resultOfRightOnes_23 : decode cX10_resultOfRightOnes 23 = .ok (.getfield 21, 3) := by decide +kernel
theorem dX10_resultOfRightOnes_26 : decode cX10_resultOfRightOnes 26 = .ok (.getfield 87, 3) := by decide +kernel
theorem dX10_resultOfRightOnes_29 : decode cX10_resultOfRightOnes 29 = .ok (.iload_n 1, 1) := by decide +kernel
theorem dX10_resultOfRightOnes_30 : decode cX10_resultOfRightOnes 30 = .ok (.invokevirtual 137, 3) := by decide +kernel
theorem dX10_resultOfRightOnes_33 : decode cX10_resultOfRightOnes 33 = .ok (.ifCond .eq 11, 3) := by decide +kernel
theorem dX10_resultOfRightOnes_36 : decode cX10_resultOfRightOnes 36 = .ok (.aload_n 0, 1) := by decide +kernel
theorem dX10_resultOfRightOnes_37 : decode cX10_resultOfRightOnes 37 = .ok (.getfield 28, 3) := by decide +kernel
theorem dX10_resultOfRightOnes_40 : decode cX10_resultOfRightOnes 40 = .ok (.iload_n 1, 1) := by decide +kernel
theorem dX10_resultOfRightOnes_41 : decode cX10_resultOfRightOnes 41 = .ok (.invokevirtual 227, 3) := by decide +kernel
theorem dX10_resultOfRightOnes_44 : decode cX10_resultOfRightOnes 44 = .ok (.iinc 1 1, 3) := by decide +kernel
theorem dX10_resultOfRightOnes_47 : decode cX10_resultOfRightOnes 47 = .ok (.goto (-31), 3) := by decide +kernel
theorem dX10_resultOfRightOnes_50 : decode cX10_resultOfRightOnes 50 = .ok (.aload_n 0, 1) := by decide +kernel
theorem dX10_resultOfRightOnes_51 : decode cX10_resultOfRightOnes 51 = .ok (.getfield 28, 3) := by decide +kernel
theorem dX10_resultOfRightOnes_54 : decode cX10_resultOfRightOnes 54 = .ok (.aload_n 0, 1) := by decide +kernel
theorem dX10_resultOfRightOnes_55 : decode cX10_resultOfRightOnes 55 = .ok (.invokevirtual 167, 3) := by decide +kernel
theorem dX10_resultOfRightOnes_58 : decode cX10_resultOfRightOnes 58 = .ok (.invokevirtual 224, 3) := by decide +kernel
theorem dX10_resultOfRightOnes_61 : decode cX10_resultOfRightOnes 61 = .ok (.ireturn, 1) := by decide +kernel
theorem dX10_resultWithAllInto_0 : decode cX10_resultWithAllInto 0 = .ok (.aload_n 0, 1) := by decide +kernel
theorem dX10_resultWithAllInto_1 : decode cX10_resultWithAllInto 1 = .ok (.getfield 28, 3) := by decide +kernel
theorem dX10_resultWithAllInto_4 : decode cX10_resultWithAllInto 4 = .ok (.aload_n 0, 1) := by decide +kernel
theorem dX10_resultWithAllInto_5 : decode cX10_resultWithAllInto 5 = .ok (.getfield 21, 3) := by decide +kernel
theorem dX10_resultWithAllInto_8 : decode cX10_resultWithAllInto 8 = .ok (.getfield 87, 3) := by decide +kernel
theorem dX10_resultWithAllInto_11 : decode cX10_resultWithAllInto 11 = .ok (.invokevirtual 220, 3) := by decide +kernel
theorem dX10_resultWithAllInto_14 : decode cX10_resultWithAllInto 14 = .ok (.iconst 0, 1) := by decide +kernel
theorem dX10_resultWithAllInto_15 : decode cX10_resultWithAllInto 15 = .ok (.istore_n 2, 1) := by decide +kernel
theorem dX10_resultWithAllInto_16 : decode cX10_resultWithAllInto 16 = .ok (.iload_n 2, 1) := by decide +kernel
theorem dX10_resultWithAllInto_17 : decode cX10_resultWithAllInto 17 = .ok (.aload_n 0, 1) := by decide +kernel
theorem dX10_resultWithAllInto_18 : decode cX10_resultWithAllInto 18 = .ok (.getfield 12, 3) := by decide +kernel
theorem dX10_resultWithAllInto_21 : decode cX10_resultWithAllInto 21 = .ok (.invokevirtual 190, 3) := by decide +kernel
theorem dX10_resultWithAllInto_24 : decode cX10_resultWithAllInto 24 = .ok (.if_icmp .ge 26, 3) := by decide +kernel
theorem dX10_resultWithAllInto_27 : decode cX10_resultWithAllInto 27 = .ok (.aload_n 0, 1) := by decide +kernel
theorem dX10_resultWithAllInto_28 : decode cX10_resultWithAllInto 28 = .ok (.iload_n 2, 1) := by decide +kernel
theorem dX10_resultWithAllInto_29 : decode cX10_resultWithAllInto 29 = .ok (.invokevirtual 230, 3) := by decide +kernel
theorem dX10_resultWithAllInto_32 : decode cX10_resultWithAllInto 32 = .ok (.ifCond .eq 12, 3) := by decide +kernel
theorem dX10_resultWithAllInto_35 : decode cX10_resultWithAllInto 35 = .ok (.aload_n 0, 1) := by decide +kernel
theorem dX10_resultWithAllInto_36 : decode cX10_resultWithAllInto 36 = .ok (.getfield 28, 3) := by decide +kernel
theorem dX10_resultWithAllInto_39 : decode cX10_resultWithAllInto 39 = .ok (.iload_n 2, 1) := by decide +kernel
theorem dX10_resultWithAllInto_40 : decode cX10_resultWithAllInto 40 = .ok (.iload_n 1, 1) := by decide +kernel
theorem dX10_resultWithAllInto_41 : decode cX10_resultWithAllInto 41 = .ok (.invokevirtual 233, 3) := by decide +kernel
theorem dX10_resultWithAllInto_44 : decode cX10_resultWithAllInto 44 = .ok (.iinc 2 1, 3) := by decide +kernel
theorem dX10_resultWithAllInto_47 : decode cX10_resultWithAllInto 47 = .ok (.goto (-31), 3) := by decide +kernel
theorem dX10_resultWithAllInto_50 : decode cX10_resultWithAllInto 50 = .ok (.aload_n 0, 1) := by decide +kernel
theorem dX10_resultWithAllInto_51 : decode cX10_resultWithAllInto 51 = .ok (.getfield 28, 3) := by decide +kernel
theorem dX10_resultWithAllInto_54 : decode cX10_resultWithAllInto 54 = .ok (.aload_n 0, 1) := by decide +kernel
theorem dX10_resultWithAllInto_55 : decode cX10_resultWithAllInto 55 = .ok (.invokevirtual 167, 3) := by decide +kernel
theorem dX10_resultWithAllInto_58 : decode cX10_resultWithAllInto 58 = .ok (.invokevirtual 224, 3) := by decide +kernel
theorem dX10_resultWithAllInto_61 : decode cX10_resultWithAllInto 61 = .ok (.ireturn, 1) := by decide +kernel
theorem dX10_canBeLaid_0 : decode cX10_canBeLaid 0 = .ok (.aload_n 0, 1) := by decide +kernel
theorem dX10_canBeLaid_1 : decode cX10_canBeLaid 1 = .ok (.getfield 21, 3) := by decide +kernel
theorem dX10_canBeLaid_4 : decode cX10_canBeLaid 4 = .ok (.getfield 87, 3) := by decide +kernel
theorem dX10_canBeLaid_7 : decode cX10_canBeLaid 7 = .ok (.iload_n 1, 1) := by decide +kernel
theorem dX10_canBeLaid_8 : decode cX10_canBeLaid 8 = .ok (.invokevirtual 237, 3) := by decide +kernel
theorem dX10_canBeLaid_11 : decode cX10_canBeLaid 11 = .ok (.istore_n 2, 1) := by decide +kernel
theorem dX10_canBeLaid_12 : decode cX10_canBeLaid 12 = .ok (.iload_n 2, 1) := by decide +kernel
theorem dX10_canBeLaid_13 : decode cX10_canBeLaid 13 = .ok (.ifCond .ne 23, 3) := by decide +kernel
theorem dX10_canBeLaid_16 : decode cX10_canBeLaid 16 = .ok (.aload_n 0, 1) := by decide +kernel
theorem dX10_canBeLaid_17 : decode cX10_canBeLaid 17 = .ok (.getfield 21, 3) := by decide +kernel
theorem dX10_canBeLaid_20 : decode cX10_canBeLaid 20 = .ok (.getfield 46, 3) := by decide +kernel
theorem dX10_canBeLaid_23 : decode cX10_canBeLaid 23 = .ok (.iload_n 1, 1) := by decide +kernel
theorem dX10_canBeLaid_24 : decode cX10_canBeLaid 24 = .ok (.invokevirtual 181, 3) := by decide +kernel
theorem dX10_canBeLaid_27 : decode cX10_canBeLaid 27 = .ok (.ifCond .ne 7, 3) := by decide +kernel
theorem dX10_canBeLaid_30 : decode cX10_canBeLaid 30 = .ok (.iconst 1, 1) := by decide +kernel
theorem dX10_canBeLaid_31 : decode cX10_canBeLaid 31 = .ok (.goto 4, 3) := by decide +kernel
theorem dX10_canBeLaid_34 : decode cX10_canBeLaid 34 = .ok (.iconst 0, 1) := by decide +kernel
theorem dX10_canBeLaid_35 : decode cX10_canBeLaid 35 = .ok (.ireturn, 1) := by decide +kernel
theorem dX10_canBeLaid_36 : decode cX10_canBeLaid 36 = .ok (.iload_n 2, 1) := by decide +kernel
theorem dX10_canBeLaid_37 : decode cX10_canBeLaid 37 = .ok (.iconst 1, 1) := by decide +kernel
theorem dX10_canBeLaid_38 : decode cX10_canBeLaid 38 = .ok (.if_icmp .ne 31, 3) := by decide +kernel
theorem dX10_canBeLaid_41 : decode cX10_canBeLaid 41 = .ok (.aload_n 0, 1) := by decide +kernel
theorem dX10_canBeLaid_42 : decode cX10_canBeLaid 42 = .ok (.getfield 21, 3) := by decide +kernel
theorem dX10_canBeLaid_45 : decode cX10_canBeLaid 45 = .ok (.getfield 46, 3) := by decide +kernel
theorem dX10_canBeLaid_48 : decode cX10_canBeLaid 48 = .ok (.aload_n 0, 1) := by decide +kernel
theorem dX10_canBeLaid_49 : decode cX10_canBeLaid 49 = .ok (.getfield 21, 3) := by decide +kernel
theorem dX10_canBeLaid_52 : decode cX10_canBeLaid 52 = .ok (.getfield 87, 3) := by decide +kernel
theorem dX10_canBeLaid_55 : decode cX10_canBeLaid 55 = .ok (.iload_n 1, 1) := by decide +kernel
theorem dX10_canBeLaid_56 : decode cX10_canBeLaid 56 = .ok (.invokevirtual 240, 3) := by decide +kernel
theorem dX10_canBeLaid_59 : decode cX10_canBeLaid 59 = .ok (.invokevirtual 181, 3) := by decide +kernel
theorem dX10_canBeLaid_62 : decode cX10_canBeLaid 62 = .ok (.ifCond .ne 7, 3) := by decide +kernel
theorem dX10_canBeLaid_65 : decode cX10_canBeLaid 65 = .ok (.iconst 1, 1) := by decide +kernel
theorem dX10_canBeLaid_66 : decode cX10_canBeLaid 66 = .ok (.goto 4, 3) := by decide +kernel
theorem dX10_canBeLaid_69 : decode cX10_canBeLaid 69 = .ok (.iconst 0, 1) := by decide +kernel
theorem dX10_canBeLaid_70 : decode cX10_canBeLaid 70 = .ok (.ireturn, 1) := by decide +kernel
theorem dX11_init_0 : decode cX11_init 0 = .ok (.aload_n 0, 1) := by decide +kernel
theorem dX11_init_1 : decode cX11_init 1 = .ok (.invokespecial 1, 3) := by decide +kernel
theorem dX11_init_4 : decode cX11_init 4 = .ok (.aload_n 0, 1) := by decide +kernel
theorem dX11_init_5 : decode cX11_init 5 = .ok (.new 7, 3) := by decide +kernel
theorem dX11_init_8 : decode cX11_init 8 = .ok (.dup, 1) := by decide +kernel
theorem dX11_init_9 : decode cX11_init 9 = .ok (.invokespecial 9, 3) := by decide +kernel
theorem dX11_init_12 : decode cX11_init 12 = .ok (.putfield 10, 3) := by decide +kernel
theorem dX11_init_15 : decode cX11_init 15 = .ok (.aload_n 0, 1) := by decide +kernel
theorem dX11_init_16 : decode cX11_init 16 = .ok (.aload_n 0, 1) := by decide +kernel
theorem dX11_init_17 : decode cX11_init 17 = .ok (.getfield 10, 3) := by decide +kernel
theorem dX11_init_20 : decode cX11_init 20 = .ok (.getfield 16, 3) := by decide +kernel
theorem dX11_init_23 : decode cX11_init 23 = .ok (.putfield 20, 3) := by decide +kernel
theorem dX11_init_26 : decode cX11_init 26 = .ok (.aload_n 0, 1) := by decide +kernel
theorem dX11_init_27 : decode cX11_init 27 = .ok (.new 21, 3) := by decide +kernel
theorem dX11_init_30 : decode cX11_init 30 = .ok (.dup, 1) := by decide +kernel
theorem dX11_init_31 : decode cX11_init 31 = .ok (.invokespecial 23, 3) := by decide +kernel
theorem dX11_init_34 : decode cX11_init 34 = .ok (.putfield 24, 3) := by decide +kernel
theorem dX11_init_37 : decode cX11_init 37 = .ok (.aload_n 0, 1) := by decide +kernel
theorem dX11_init_38 : decode cX11_init 38 = .ok (.aload_n 0, 1) := by decide +kernel
theorem dX11_init_39 : decode cX11_init 39 = .ok (.getfield 24, 3) := by decide +kernel
theorem dX11_init_42 : decode cX11_init 42 = .ok (.getfield 28, 3) := by decide +kernel
theorem dX11_init_45 : decode cX11_init 45 = .ok (.putfield 32, 3) := by decide +kernel
theorem dX11_init_48 : decode cX11_init 48 = .ok (.aload_n 0, 1) := by decide +kernel
theorem dX11_init_49 : decode cX11_init 49 = .ok (.aload_n 0, 1) := by decide +kernel
theorem dX11_init_50 : decode cX11_init 50 = .ok (.getfield 24, 3) := by decide +kernel
theorem dX11_init_53 : decode cX11_init 53 = .ok (.getfield 33, 3) := by decide +kernel
theorem dX11_init_56 : decode cX11_init 56 = .ok (.putfield 37, 3) := by decide +kernel
theorem dX11_init_59 : decode cX11_init 59 = .ok (.aload_n 0, 1) := by decide +kernel
theorem dX11_init_60 : decode cX11_init 60 = .ok (.new 38, 3) := by decide +kernel
theorem dX11_init_63 : decode cX11_init 63 = .ok (.dup, 1) := by decide +kernel
theorem dX11_init_64 : decode cX11_init 64 = .ok (.invokespecial 40, 3) := by decide +kernel
theorem dX11_init_67 : decode cX11_init 67 = .ok (.putfield 41, 3) := by decide +kernel
theorem dX11_init_70 : decode cX11_init 70 = .ok (.aload_n 0, 1) := by decide +kernel
theorem dX11_init_71 : decode cX11_init 71 = .ok (.iconst 2, 1) := by decide +kernel
theorem dX11_init_72 : decode cX11_init 72 = .ok (.anewarray 45, 3) := by decide +kernel
theorem dX11_init_75 : decode cX11_init 75 = .ok (.dup, 1) := by decide +kernel
theorem dX11_init_76 : decode cX11_init 76 = .ok (.iconst 0, 1) := by decide +kernel
theorem dX11_init_77 : decode cX11_init 77 = .ok (.new 45, 3) := by decide +kernel
theorem dX11_init_80 : decode cX11_init 80 = .ok (.dup, 1) := by decide +kernel
theorem dX11_init_81 : decode cX11_init 81 = .ok (.invokespecial 47, 3) := by decide +kernel
theorem dX11_init_84 : decode cX11_init 84 = .ok (.aastore, 1) := by decide +kernel
theorem dX11_init_85 : decode cX11_init 85 = .ok (.dup, 1) := by decide +kernel
theorem dX11_init_86 : decode cX11_init 86 = .ok (.iconst 1, 1) := by decide +kernel
theorem dX11_init_87 : decode cX11_init 87 = .ok (.new 45, 3) := by decide +kernel
theorem dX11_init_90 : decode cX11_init 90 = .ok (.dup, 1) := by decide +kernel
theorem dX11_init_91 : decode cX11_init 91 = .ok (.invokespecial 47, 3) := by decide +kernel
theorem dX11_init_94 : decode cX11_init 94 = .ok (.aastore, 1) := by decide +kernel
theorem dX11_init_95 : decode cX11_init 95 = .ok (.putfield 48, 3) := by decide +kernel
theorem dX11_init_98 : decode cX11_init 98 = .ok (.aload_n 0, 1) := by decide +kernel
theorem dX11_init_99 : decode cX11_init 99 = .ok (.iconst 2, 1) := by decide +kernel
theorem dX11_init_100 : decode cX11_init 100 = .ok (.newarray .boolean, 2) := by decide +kernel
theorem dX11_init_102 : decode cX11_init 102 = .ok (.putfield 52, 3) := by decide +kernel
theorem dX11_init_105 : decode cX11_init 105 = .ok (.aload_n 0, 1) := by decide +kernel
theorem dX11_init_106 : decode cX11_init 106 = .ok (.new 56, 3) := by decide +kernel
theorem dX11_init_109 : decode cX11_init 109 = .ok (.dup, 1) := by decide +kernel
theorem dX11_init_110 : decode cX11_init 110 = .ok (.invokespecial 58, 3) := by decide +kernel
theorem dX11_init_113 : decode cX11_init 113 = .ok (.putfield 59, 3) := by decide +kernel
theorem dX11_init_116 : decode cX11_init 116 = .ok (.aload_n 0, 1) := by decide +kernel
theorem dX11_init_117 : decode cX11_init 117 = .ok (.bipush (-2), 2) := by decide +kernel
theorem dX11_init_119 : decode cX11_init 119 = .ok (.putfield 63, 3) := by decide +kernel
theorem dX11_init_122 : decode cX11_init 122 = .ok (.aload_n 0, 1) := by decide +kernel
theorem dX11_init_123 : decode cX11_init 123 = .ok (.getfield 24, 3) := by decide +kernel
theorem dX11_init_126 : decode cX11_init 126 = .ok (.invokevirtual 67, 3) := by decide +kernel
theorem dX11_init_129 : decode cX11_init 129 = .ok (.return_, 1) := by decide +kernel
theorem dX11_append_0 : decode cX11_append 0 = .ok (.aload_n 0, 1) := by decide +kernel
theorem dX11_append_1 : decode cX11_append 1 = .ok (.getfield 20, 3) := by decide +kernel
theorem dX11_append_4 : decode cX11_append 4 = .ok (.invokevirtual 70, 3) := by decide +kernel
theorem dX11_append_7 : decode cX11_append 7 = .ok (.bipush 20, 2) := by decide +kernel
theorem dX11_append_9 : decode cX11_append 9 = .ok (.iadd, 1) := by decide +kernel
theorem dX11_append_10 : decode cX11_append 10 = .ok (.sipush 800, 3) := by decide +kernel
theorem dX11_append_13 : decode cX11_append 13 = .ok (.if_icmp .le 5, 3) := by decide +kernel
theorem dX11_append_16 : decode cX11_append 16 = .ok (.iconst (-1), 1) := by decide +kernel
theorem dX11_append_17 : decode cX11_append 17 = .ok (.ireturn, 1) := by decide +kernel
theorem dX11_append_18 : decode cX11_append 18 = .ok (.aload_n 0, 1) := by decide +kernel
theorem dX11_append_19 : decode cX11_append 19 = .ok (.getfield 20, 3) := by decide +kernel
theorem dX11_append_22 : decode cX11_append 22 = .ok (.iload_n 1, 1) := by decide +kernel
theorem dX11_append_23 : decode cX11_append 23 = .ok (.invokevirtual 76, 3) := by decide +kernel
theorem dX11_append_26 : decode cX11_append 26 = .ok (.aload_n 0, 1) := by decide +kernel
theorem dX11_append_27 : decode cX11_append 27 = .ok (.getfield 20, 3) := by decide +kernel
theorem dX11_append_30 : decode cX11_append 30 = .ok (.iload_n 2, 1) := by decide +kernel
theorem dX11_append_31 : decode cX11_append 31 = .ok (.invokevirtual 76, 3) := by decide +kernel
theorem dX11_append_34 : decode cX11_append 34 = .ok (.aload_n 0, 1) := by decide +kernel
theorem dX11_append_35 : decode cX11_append 35 = .ok (.getfield 20, 3) := by decide +kernel
theorem dX11_append_38 : decode cX11_append 38 = .ok (.iload_n 3, 1) := by decide +kernel
theorem dX11_append_39 : decode cX11_append 39 = .ok (.invokevirtual 76, 3) := by decide +kernel
theorem dX11_append_42 : decode cX11_append 42 = .ok (.aload_n 0, 1) := by decide +kernel
theorem dX11_append_43 : decode cX11_append 43 = .ok (.getfield 20, 3) := by decide +kernel
theorem dX11_append_46 : decode cX11_append 46 = .ok (.iload 4, 2) := by decide +kernel
theorem dX11_append_48 : decode cX11_append 48 = .ok (.invokevirtual 76, 3) := by decide +kernel
theorem dX11_append_51 : decode cX11_append 51 = .ok (.aload_n 0, 1) := by decide +kernel
theorem dX11_append_52 : decode cX11_append 52 = .ok (.getfield 20, 3) := by decide +kernel
theorem dX11_append_55 : decode cX11_append 55 = .ok (.iload 5, 2) := by decide +kernel
theorem dX11_append_57 : decode cX11_append 57 = .ok (.invokevirtual 76, 3) := by decide +kernel
theorem dX11_append_60 : decode cX11_append 60 = .ok (.aload_n 0, 1) := by decide +kernel
theorem dX11_append_61 : decode cX11_append 61 = .ok (.getfield 20, 3) := by decide +kernel
theorem dX11_append_64 : decode cX11_append 64 = .ok (.invokevirtual 70, 3) := by decide +kernel
theorem dX11_append_67 : decode cX11_append 67 = .ok (.ireturn, 1) := by decide +kernel
theorem dX11_truncate_0 : decode cX11_truncate 0 = .ok (.iload_n 1, 1) := by decide +kernel
theorem dX11_truncate_1 : decode cX11_truncate 1 = .ok (.ifCond .lt 14, 3) := by decide +kernel
theorem dX11_truncate_4 : decode cX11_truncate 4 = .ok (.iload_n 1, 1) := by decide +kernel
theorem dX11_truncate_5 : decode cX11_truncate 5 = .ok (.aload_n 0, 1) := by decide +kernel
theorem dX11_truncate_6 : decode cX11_truncate 6 = .ok (.getfield 20, 3) := by decide +kernel
theorem dX11_truncate_9 : decode cX11_truncate 9 = .ok (.invokevirtual 70, 3) := by decide +kernel
theorem dX11_truncate_12 : decode cX11_truncate 12 = .ok (.if_icmp .le 5, 3) := by decide +kernel
theorem dX11_truncate_15 : decode cX11_truncate 15 = .ok (.iconst (-1), 1) := by decide +kernel
theorem dX11_truncate_16 : decode cX11_truncate 16 = .ok (.ireturn, 1) := by decide +kernel
theorem dX11_truncate_17 : decode cX11_truncate 17 = .ok (.aload_n 0, 1) := by decide +kernel
theorem dX11_truncate_18 : decode cX11_truncate 18 = .ok (.getfield 20, 3) := by decide +kernel
theorem dX11_truncate_21 : decode cX11_truncate 21 = .ok (.aload_n 0, 1) := by decide +kernel
theorem dX11_truncate_22 : decode cX11_truncate 22 = .ok (.getfield 20, 3) := by decide +kernel
theorem dX11_truncate_25 : decode cX11_truncate 25 = .ok (.invokevirtual 70, 3) := by decide +kernel
theorem dX11_truncate_28 : decode cX11_truncate 28 = .ok (.iload_n 1, 1) := by decide +kernel
theorem dX11_truncate_29 : decode cX11_truncate 29 = .ok (.isub, 1) := by decide +kernel
theorem dX11_truncate_30 : decode cX11_truncate 30 = .ok (.invokevirtual 80, 3) := by decide +kernel
theorem dX11_truncate_33 : decode cX11_truncate 33 = .ok (.aload_n 0, 1) := by decide +kernel
theorem dX11_truncate_34 : decode cX11_truncate 34 = .ok (.getfield 20, 3) := by decide +kernel
theorem dX11_truncate_37 : decode cX11_truncate 37 = .ok (.invokevirtual 70, 3) := by decide +kernel
theorem dX11_truncate_40 : decode cX11_truncate 40 = .ok (.ireturn, 1) := by decide +kernel
theorem dX11_load_0 : decode cX11_load 0 = .ok (.aload_n 0, 1) := by decide +kernel
theorem dX11_load_1 : decode cX11_load 1 = .ok (.aload_n 0, 1) := by decide +kernel
theorem dX11_load_2 : decode cX11_load 2 = .ok (.getfield 10, 3) := by decide +kernel
theorem dX11_load_5 : decode cX11_load 5 = .ok (.invokevirtual 83, 3) := by decide +kernel
theorem dX11_load_8 : decode cX11_load 8 = .ok (.putfield 63, 3) := by decide +kernel
theorem dX11_load_11 : decode cX11_load 11 = .ok (.aload_n 0, 1) := by decide +kernel
theorem dX11_load_12 : decode cX11_load 12 = .ok (.getfield 20, 3) := by decide +kernel
theorem dX11_load_15 : decode cX11_load 15 = .ok (.iconst 0, 1) := by decide +kernel
theorem dX11_load_16 : decode cX11_load 16 = .ok (.invokevirtual 80, 3) := by decide +kernel
theorem dX11_load_19 : decode cX11_load 19 = .ok (.aload_n 0, 1) := by decide +kernel
theorem dX11_load_20 : decode cX11_load 20 = .ok (.getfield 63, 3) := by decide +kernel
theorem dX11_load_23 : decode cX11_load 23 = .ok (.bipush (-2), 2) := by decide +kernel
theorem dX11_load_25 : decode cX11_load 25 = .ok (.if_icmp .eq 5, 3) := by decide +kernel
theorem dX11_load_28 : decode cX11_load 28 = .ok (.iconst (-1), 1) := by decide +kernel
theorem dX11_load_29 : decode cX11_load 29 = .ok (.ireturn, 1) := by decide +kernel
theorem dX11_load_30 : decode cX11_load 30 = .ok (.aload_n 0, 1) := by decide +kernel
theorem dX11_load_31 : decode cX11_load 31 = .ok (.getfield 24, 3) := by decide +kernel
theorem dX11_load_34 : decode cX11_load 34 = .ok (.aload_n 0, 1) := by decide +kernel
theorem dX11_load_35 : decode cX11_load 35 = .ok (.getfield 10, 3) := by decide +kernel
theorem dX11_load_38 : decode cX11_load 38 = .ok (.getfield 86, 3) := by decide +kernel
theorem dX11_load_41 : decode cX11_load 41 = .ok (.invokevirtual 89, 3) := by decide +kernel
theorem dX11_load_44 : decode cX11_load 44 = .ok (.aload_n 0, 1) := by decide +kernel
theorem dX11_load_45 : decode cX11_load 45 = .ok (.getfield 41, 3) := by decide +kernel
theorem dX11_load_48 : decode cX11_load 48 = .ok (.invokevirtual 93, 3) := by decide +kernel
theorem dX11_load_51 : decode cX11_load 51 = .ok (.iconst 0, 1) := by decide +kernel
theorem dX11_load_52 : decode cX11_load 52 = .ok (.istore_n 1, 1) := by decide +kernel
theorem dX11_load_53 : decode cX11_load 53 = .ok (.iload_n 1, 1) := by decide +kernel
theorem dX11_load_54 : decode cX11_load 54 = .ok (.aload_n 0, 1) := by decide +kernel
theorem dX11_load_55 : decode cX11_load 55 = .ok (.getfield 52, 3) := by decide +kernel
theorem dX11_load_58 : decode cX11_load 58 = .ok (.arraylength, 1) := by decide +kernel
theorem dX11_load_59 : decode cX11_load 59 = .ok (.if_icmp .ge 16, 3) := by decide +kernel
theorem dX11_load_62 : decode cX11_load 62 = .ok (.aload_n 0, 1) := by decide +kernel
theorem dX11_load_63 : decode cX11_load 63 = .ok (.getfield 52, 3) := by decide +kernel
theorem dX11_load_66 : decode cX11_load 66 = .ok (.iload_n 1, 1) := by decide +kernel
theorem dX11_load_67 : decode cX11_load 67 = .ok (.iconst 0, 1) := by decide +kernel
theorem dX11_load_68 : decode cX11_load 68 = .ok (.bastore, 1) := by decide +kernel
theorem dX11_load_69 : decode cX11_load 69 = .ok (.iinc 1 1, 3) := by decide +kernel
theorem dX11_load_72 : decode cX11_load 72 = .ok (.goto (-19), 3) := by decide +kernel
theorem dX11_load_75 : decode cX11_load 75 = .ok (.aload_n 0, 1) := by decide +kernel
theorem dX11_load_76 : decode cX11_load 76 = .ok (.getfield 32, 3) := by decide +kernel
theorem dX11_load_79 : decode cX11_load 79 = .ok (.invokevirtual 96, 3) := by decide +kernel
theorem dX11_load_82 : decode cX11_load 82 = .ok (.ireturn, 1) := by decide +kernel
theorem dX11_errorPosition_0 : decode cX11_errorPosition 0 = .ok (.aload_n 0, 1) := by decide +kernel
theorem dX11_errorPosition_1 : decode cX11_errorPosition 1 = .ok (.getfield 63, 3) := by decide +kernel
theorem dX11_errorPosition_4 : decode cX11_errorPosition 4 = .ok (.ireturn, 1) := by decide +kernel
theorem dX11_sail_0 : decode cX11_sail 0 = .ok (.aload_n 0, 1) := by decide +kernel
theorem dX11_sail_1 : decode cX11_sail 1 = .ok (.iload_n 1, 1) := by decide +kernel
theorem dX11_sail_2 : decode cX11_sail 2 = .ok (.invokevirtual 101, 3) := by decide +kernel
theorem dX11_sail_5 : decode cX11_sail 5 = .ok (.ifCond .eq 10, 3) := by decide +kernel
theorem dX11_sail_8 : decode cX11_sail 8 = .ok (.iload_n 2, 1) := by decide +kernel
theorem dX11_sail_9 : decode cX11_sail 9 = .ok (.invokestatic 105, 3) := by decide +kernel
theorem dX11_sail_12 : decode cX11_sail 12 = .ok (.ifCond .ne 5, 3) := by decide +kernel
theorem dX11_sail_15 : decode cX11_sail 15 = .ok (.iconst (-1), 1) := by decide +kernel
theorem dX11_sail_16 : decode cX11_sail 16 = .ok (.ireturn, 1) := by decide +kernel
theorem dX11_sail_17 : decode cX11_sail 17 = .ok (.aload_n 0, 1) := by decide +kernel
theorem dX11_sail_18 : decode cX11_sail 18 = .ok (.getfield 37, 3) := by decide +kernel
theorem dX11_sail_21 : decode cX11_sail 21 = .ok (.getfield 108, 3) := by decide +kernel
theorem dX11_sail_24 : decode cX11_sail 24 = .ok (.iload_n 1, 1) := by decide +kernel
theorem dX11_sail_25 : decode cX11_sail 25 = .ok (.invokevirtual 112, 3) := by decide +kernel
theorem dX11_sail_28 : decode cX11_sail 28 = .ok (.ifCond .eq 6, 3) := by decide +kernel
theorem dX11_sail_31 : decode cX11_sail 31 = .ok (.bipush (-4), 2) := by decide +kernel
theorem dX11_sail_33 : decode cX11_sail 33 = .ok (.ireturn, 1) := by decide +kernel
theorem dX11_sail_34 : decode cX11_sail 34 = .ok (.aload_n 0, 1) := by decide +kernel
theorem dX11_sail_35 : decode cX11_sail 35 = .ok (.getfield 41, 3) := by decide +kernel
theorem dX11_sail_38 : decode cX11_sail 38 = .ok (.aload_n 0, 1) := by decide +kernel
theorem dX11_sail_39 : decode cX11_sail 39 = .ok (.getfield 37, 3) := by decide +kernel
theorem dX11_sail_42 : decode cX11_sail 42 = .ok (.invokevirtual 117, 3) := by decide +kernel
theorem dX11_sail_45 : decode cX11_sail 45 = .ok (.aload_n 0, 1) := by decide +kernel
theorem dX11_sail_46 : decode cX11_sail 46 = .ok (.getfield 24, 3) := by decide +kernel
theorem dX11_sail_49 : decode cX11_sail 49 = .ok (.iload_n 1, 1) := by decide +kernel
theorem dX11_sail_50 : decode cX11_sail 50 = .ok (.iload_n 2, 1) := by decide +kernel
theorem dX11_sail_51 : decode cX11_sail 51 = .ok (.invokevirtual 121, 3) := by decide +kernel
theorem dX11_sail_54 : decode cX11_sail 54 = .ok (.ireturn, 1) := by decide +kernel
theorem dX11_delay_0 : decode cX11_delay 0 = .ok (.aload_n 0, 1) := by decide +kernel
theorem dX11_delay_1 : decode cX11_delay 1 = .ok (.iload_n 1, 1) := by decide +kernel
theorem dX11_delay_2 : decode cX11_delay 2 = .ok (.invokevirtual 101, 3) := by decide +kernel
theorem dX11_delay_5 : decode cX11_delay 5 = .ok (.ifCond .eq 10, 3) := by decide +kernel
theorem dX11_delay_8 : decode cX11_delay 8 = .ok (.iload_n 2, 1) := by decide +kernel
theorem dX11_delay_9 : decode cX11_delay 9 = .ok (.invokestatic 105, 3) := by decide +kernel
theorem dX11_delay_12 : decode cX11_delay 12 = .ok (.ifCond .ne 5, 3) := by decide +kernel
theorem dX11_delay_15 : decode cX11_delay 15 = .ok (.iconst (-1), 1) := by decide +kernel
theorem dX11_delay_16 : decode cX11_delay 16 = .ok (.ireturn, 1) := by decide +kernel
theorem dX11_delay_17 : decode cX11_delay 17 = .ok (.aload_n 0, 1) := by decide +kernel
theorem dX11_delay_18 : decode cX11_delay 18 = .ok (.getfield 37, 3) := by decide +kernel
theorem dX11_delay_21 : decode cX11_delay 21 = .ok (.getfield 108, 3) := by decide +kernel
theorem dX11_delay_24 : decode cX11_delay 24 = .ok (.iload_n 1, 1) := by decide +kernel
theorem dX11_delay_25 : decode cX11_delay 25 = .ok (.invokevirtual 112, 3) := by decide +kernel
theorem dX11_delay_28 : decode cX11_delay 28 = .ok (.ifCond .ne 6, 3) := by decide +kernel
theorem dX11_delay_31 : decode cX11_delay 31 = .ok (.bipush (-4), 2) := by decide +kernel
theorem dX11_delay_33 : decode cX11_delay 33 = .ok (.ireturn, 1) := by decide +kernel
theorem dX11_delay_34 : decode cX11_delay 34 = .ok (.aload_n 0, 1) := by decide +kernel
theorem dX11_delay_35 : decode cX11_delay 35 = .ok (.getfield 41, 3) := by decide +kernel
theorem dX11_delay_38 : decode cX11_delay 38 = .ok (.aload_n 0, 1) := by decide +kernel
theorem dX11_delay_39 : decode cX11_delay 39 = .ok (.getfield 37, 3) := by decide +kernel
theorem dX11_delay_42 : decode cX11_delay 42 = .ok (.invokevirtual 117, 3) := by decide +kernel
theorem dX11_delay_45 : decode cX11_delay 45 = .ok (.aload_n 0, 1) := by decide +kernel
theorem dX11_delay_46 : decode cX11_delay 46 = .ok (.getfield 37, 3) := by decide +kernel
theorem dX11_delay_49 : decode cX11_delay 49 = .ok (.getfield 108, 3) := by decide +kernel
theorem dX11_delay_52 : decode cX11_delay 52 = .ok (.iload_n 1, 1) := by decide +kernel
theorem dX11_delay_53 : decode cX11_delay 53 = .ok (.iload_n 2, 1) := by decide +kernel
theorem dX11_delay_54 : decode cX11_delay 54 = .ok (.invokevirtual 125, 3) := by decide +kernel
theorem dX11_delay_57 : decode cX11_delay 57 = .ok (.aload_n 0, 1) := by decide +kernel
theorem dX11_delay_58 : decode cX11_delay 58 = .ok (.getfield 37, 3) := by decide +kernel
theorem dX11_delay_61 : decode cX11_delay 61 = .ok (.getfield 108, 3) := by decide +kernel
theorem dX11_delay_64 : decode cX11_delay 64 = .ok (.iload_n 1, 1) := by decide +kernel
theorem dX11_delay_65 : decode cX11_delay 65 = .ok (.invokevirtual 129, 3) := by decide +kernel
theorem dX11_delay_68 : decode cX11_delay 68 = .ok (.ireturn, 1) := by decide +kernel
theorem dX11_comeHome_0 : decode cX11_comeHome 0 = .ok (.aload_n 0, 1) := by decide +kernel
theorem dX11_comeHome_1 : decode cX11_comeHome 1 = .ok (.iload_n 1, 1) := by decide +kernel
theorem dX11_comeHome_2 : decode cX11_comeHome 2 = .ok (.invokevirtual 101, 3) := by decide +kernel
theorem dX11_comeHome_5 : decode cX11_comeHome 5 = .ok (.ifCond .ne 5, 3) := by decide +kernel
theorem dX11_comeHome_8 : decode cX11_comeHome 8 = .ok (.iconst (-1), 1) := by decide +kernel
theorem dX11_comeHome_9 : decode cX11_comeHome 9 = .ok (.ireturn, 1) := by decide +kernel
theorem dX11_comeHome_10 : decode cX11_comeHome 10 = .ok (.aload_n 0, 1) := by decide +kernel
theorem dX11_comeHome_11 : decode cX11_comeHome 11 = .ok (.getfield 37, 3) := by decide +kernel
theorem dX11_comeHome_14 : decode cX11_comeHome 14 = .ok (.getfield 108, 3) := by decide +kernel
theorem dX11_comeHome_17 : decode cX11_comeHome 17 = .ok (.iload_n 1, 1) := by decide +kernel
theorem dX11_comeHome_18 : decode cX11_comeHome 18 = .ok (.invokevirtual 112, 3) := by decide +kernel
theorem dX11_comeHome_21 : decode cX11_comeHome 21 = .ok (.ifCond .ne 6, 3) := by decide +kernel
theorem dX11_comeHome_24 : decode cX11_comeHome 24 = .ok (.bipush (-4), 2) := by decide +kernel
theorem dX11_comeHome_26 : decode cX11_comeHome 26 = .ok (.ireturn, 1) := by decide +kernel
theorem dX11_comeHome_27 : decode cX11_comeHome 27 = .ok (.aload_n 0, 1) := by decide +kernel
theorem dX11_comeHome_28 : decode cX11_comeHome 28 = .ok (.getfield 41, 3) := by decide +kernel
theorem dX11_comeHome_31 : decode cX11_comeHome 31 = .ok (.aload_n 0, 1) := by decide +kernel
theorem dX11_comeHome_32 : decode cX11_comeHome 32 = .ok (.getfield 37, 3) := by decide +kernel
theorem dX11_comeHome_35 : decode cX11_comeHome 35 = .ok (.invokevirtual 117, 3) := by decide +kernel
theorem dX11_comeHome_38 : decode cX11_comeHome 38 = .ok (.aload_n 0, 1) := by decide +kernel
theorem dX11_comeHome_39 : decode cX11_comeHome 39 = .ok (.getfield 24, 3) := by decide +kernel
theorem dX11_comeHome_42 : decode cX11_comeHome 42 = .ok (.iload_n 1, 1) := by decide +kernel
theorem dX11_comeHome_43 : decode cX11_comeHome 43 = .ok (.invokevirtual 133, 3) := by decide +kernel
theorem dX11_comeHome_46 : decode cX11_comeHome 46 = .ok (.ireturn, 1) := by decide +kernel
theorem dX11_join_0 : decode cX11_join 0 = .ok (.aload_n 0, 1) := by decide +kernel
theorem dX11_join_1 : decode cX11_join 1 = .ok (.iload_n 1, 1) := by decide +kernel
theorem dX11_join_2 : decode cX11_join 2 = .ok (.invokevirtual 136, 3) := by decide +kernel
theorem dX11_join_5 : decode cX11_join 5 = .ok (.ifCond .eq 17, 3) := by decide +kernel
theorem dX11_join_8 : decode cX11_join 8 = .ok (.iload_n 2, 1) := by decide +kernel
theorem dX11_join_9 : decode cX11_join 9 = .ok (.bipush (-2), 2) := by decide +kernel
theorem dX11_join_11 : decode cX11_join 11 = .ok (.if_icmp .eq 13, 3) := by decide +kernel
theorem dX11_join_14 : decode cX11_join 14 = .ok (.aload_n 0, 1) := by decide +kernel
theorem dX11_join_15 : decode cX11_join 15 = .ok (.iload_n 2, 1) := by decide +kernel
theorem dX11_join_16 : decode cX11_join 16 = .ok (.invokevirtual 101, 3) := by decide +kernel
theorem dX11_join_19 : decode cX11_join 19 = .ok (.ifCond .ne 5, 3) := by decide +kernel
theorem dX11_join_22 : decode cX11_join 22 = .ok (.iconst (-1), 1) := by decide +kernel
theorem dX11_join_23 : decode cX11_join 23 = .ok (.ireturn, 1) := by decide +kernel
theorem dX11_join_24 : decode cX11_join 24 = .ok (.aload_n 0, 1) := by decide +kernel
theorem dX11_join_25 : decode cX11_join 25 = .ok (.getfield 37, 3) := by decide +kernel
theorem dX11_join_28 : decode cX11_join 28 = .ok (.getfield 108, 3) := by decide +kernel
theorem dX11_join_31 : decode cX11_join 31 = .ok (.iload_n 1, 1) := by decide +kernel
theorem dX11_join_32 : decode cX11_join 32 = .ok (.invokevirtual 139, 3) := by decide +kernel
theorem dX11_join_35 : decode cX11_join 35 = .ok (.ifCond .eq 6, 3) := by decide +kernel
theorem dX11_join_38 : decode cX11_join 38 = .ok (.bipush (-3), 2) := by decide +kernel
theorem dX11_join_40 : decode cX11_join 40 = .ok (.ireturn, 1) := by decide +kernel
theorem dX11_join_41 : decode cX11_join 41 = .ok (.aload_n 0, 1) := by decide +kernel
theorem dX11_join_42 : decode cX11_join 42 = .ok (.getfield 37, 3) := by decide +kernel
theorem dX11_join_45 : decode cX11_join 45 = .ok (.getfield 108, 3) := by decide +kernel
theorem dX11_join_48 : decode cX11_join 48 = .ok (.iload_n 1, 1) := by decide +kernel
theorem dX11_join_49 : decode cX11_join 49 = .ok (.invokevirtual 142, 3) := by decide +kernel
theorem dX11_join_52 : decode cX11_join 52 = .ok (.istore_n 3, 1) := by decide +kernel
theorem dX11_join_53 : decode cX11_join 53 = .ok (.iload_n 3, 1) := by decide +kernel
theorem dX11_join_54 : decode cX11_join 54 = .ok (.iload_n 2, 1) := by decide +kernel
theorem dX11_join_55 : decode cX11_join 55 = .ok (.if_icmp .ne 6, 3) := by decide +kernel
theorem dX11_join_58 : decode cX11_join 58 = .ok (.bipush (-2), 2) := by decide +kernel
theorem dX11_join_60 : decode cX11_join 60 = .ok (.ireturn, 1) := by decide +kernel
theorem dX11_join_61 : decode cX11_join 61 = .ok (.aload_n 0, 1) := by decide +kernel
theorem dX11_join_62 : decode cX11_join 62 = .ok (.getfield 41, 3) := by decide +kernel
theorem dX11_join_65 : decode cX11_join 65 = .ok (.aload_n 0, 1) := by decide +kernel
theorem dX11_join_66 : decode cX11_join 66 = .ok (.getfield 37, 3) := by decide +kernel
theorem dX11_join_69 : decode cX11_join 69 = .ok (.invokevirtual 117, 3) := by decide +kernel
theorem dX11_join_72 : decode cX11_join 72 = .ok (.aload_n 0, 1) := by decide +kernel
theorem dX11_join_73 : decode cX11_join 73 = .ok (.getfield 37, 3) := by decide +kernel
theorem dX11_join_76 : decode cX11_join 76 = .ok (.getfield 108, 3) := by decide +kernel
theorem dX11_join_79 : decode cX11_join 79 = .ok (.iload_n 1, 1) := by decide +kernel
theorem dX11_join_80 : decode cX11_join 80 = .ok (.iload_n 2, 1) := by decide +kernel
theorem dX11_join_81 : decode cX11_join 81 = .ok (.invokevirtual 145, 3) := by decide +kernel
theorem dX11_join_84 : decode cX11_join 84 = .ok (.iload_n 3, 1) := by decide +kernel
theorem dX11_join_85 : decode cX11_join 85 = .ok (.bipush (-2), 2) := by decide +kernel
theorem dX11_join_87 : decode cX11_join 87 = .ok (.if_icmp .ne 7, 3) := by decide +kernel
theorem dX11_join_90 : decode cX11_join 90 = .ok (.iconst 0, 1) := by decide +kernel
theorem dX11_join_91 : decode cX11_join 91 = .ok (.goto 6, 3) := by decide +kernel
theorem dX11_join_94 : decode cX11_join 94 = .ok (.iload_n 3, 1) := by decide +kernel
theorem dX11_join_95 : decode cX11_join 95 = .ok (.iconst 1, 1) := by decide +kernel
theorem dX11_join_96 : decode cX11_join 96 = .ok (.iadd, 1) := by decide +kernel
theorem dX11_join_97 : decode cX11_join 97 = .ok (.ireturn, 1) := by decide +kernel
theorem dX11_open_0 : decode cX11_open 0 = .ok (.iload_n 1, 1) := by decide +kernel
theorem dX11_open_1 : decode cX11_open 1 = .ok (.iconst 2, 1) := by decide +kernel
theorem dX11_open_2 : decode cX11_open 2 = .ok (.if_icmp .lt 8, 3) := by decide +kernel
theorem dX11_open_5 : decode cX11_open 5 = .ok (.iload_n 1, 1) := by decide +kernel
theorem dX11_open_6 : decode cX11_open 6 = .ok (.iconst 4, 1) := by decide +kernel
theorem dX11_open_7 : decode cX11_open 7 = .ok (.if_icmp .le 5, 3) := by decide +kernel
theorem dX11_open_10 : decode cX11_open 10 = .ok (.iconst (-1), 1) := by decide +kernel
theorem dX11_open_11 : decode cX11_open 11 = .ok (.ireturn, 1) := by decide +kernel
theorem dX11_open_12 : decode cX11_open 12 = .ok (.aload_n 0, 1) := by decide +kernel
theorem dX11_open_13 : decode cX11_open 13 = .ok (.getfield 24, 3) := by decide +kernel
theorem dX11_open_16 : decode cX11_open 16 = .ok (.invokevirtual 148, 3) := by decide +kernel
theorem dX11_open_19 : decode cX11_open 19 = .ok (.ifCond .eq 6, 3) := by decide +kernel
theorem dX11_open_22 : decode cX11_open 22 = .ok (.bipush (-5), 2) := by decide +kernel
theorem dX11_open_24 : decode cX11_open 24 = .ok (.ireturn, 1) := by decide +kernel
theorem dX11_open_25 : decode cX11_open 25 = .ok (.aload_n 0, 1) := by decide +kernel
theorem dX11_open_26 : decode cX11_open 26 = .ok (.getfield 41, 3) := by decide +kernel
theorem dX11_open_29 : decode cX11_open 29 = .ok (.aload_n 0, 1) := by decide +kernel
theorem dX11_open_30 : decode cX11_open 30 = .ok (.getfield 37, 3) := by decide +kernel
theorem dX11_open_33 : decode cX11_open 33 = .ok (.invokevirtual 117, 3) := by decide +kernel
theorem dX11_open_36 : decode cX11_open 36 = .ok (.aload_n 0, 1) := by decide +kernel
theorem dX11_open_37 : decode cX11_open 37 = .ok (.getfield 24, 3) := by decide +kernel
theorem dX11_open_40 : decode cX11_open 40 = .ok (.iload_n 1, 1) := by decide +kernel
theorem dX11_open_41 : decode cX11_open 41 = .ok (.invokevirtual 152, 3) := by decide +kernel
theorem dX11_open_44 : decode cX11_open 44 = .ok (.ireturn, 1) := by decide +kernel
theorem dX11_give_0 : decode cX11_give 0 = .ok (.aload_n 0, 1) := by decide +kernel
theorem dX11_give_1 : decode cX11_give 1 = .ok (.iload_n 1, 1) := by decide +kernel
theorem dX11_give_2 : decode cX11_give 2 = .ok (.invokevirtual 136, 3) := by decide +kernel
theorem dX11_give_5 : decode cX11_give 5 = .ok (.ifCond .eq 16, 3) := by decide +kernel
theorem dX11_give_8 : decode cX11_give 8 = .ok (.aload_n 0, 1) := by decide +kernel
theorem dX11_give_9 : decode cX11_give 9 = .ok (.iload_n 2, 1) := by decide +kernel
theorem dX11_give_10 : decode cX11_give 10 = .ok (.invokevirtual 136, 3) := by decide +kernel
theorem dX11_give_13 : decode cX11_give 13 = .ok (.ifCond .eq 8, 3) := by decide +kernel
theorem dX11_give_16 : decode cX11_give 16 = .ok (.iload_n 1, 1) := by decide +kernel
theorem dX11_give_17 : decode cX11_give 17 = .ok (.iload_n 2, 1) := by decide +kernel
theorem dX11_give_18 : decode cX11_give 18 = .ok (.if_icmp .ne 5, 3) := by decide +kernel
theorem dX11_give_21 : decode cX11_give 21 = .ok (.iconst (-1), 1) := by decide +kernel
theorem dX11_give_22 : decode cX11_give 22 = .ok (.ireturn, 1) := by decide +kernel
theorem dX11_give_23 : decode cX11_give 23 = .ok (.iload_n 3, 1) := by decide +kernel
theorem dX11_give_24 : decode cX11_give 24 = .ok (.bipush (-2), 2) := by decide +kernel
theorem dX11_give_26 : decode cX11_give 26 = .ok (.if_icmp .eq 12, 3) := by decide +kernel
theorem dX11_give_29 : decode cX11_give 29 = .ok (.iload_n 3, 1) := by decide +kernel
theorem dX11_give_30 : decode cX11_give 30 = .ok (.invokestatic 155, 3) := by decide +kernel
theorem dX11_give_33 : decode cX11_give 33 = .ok (.ifCond .ne 5, 3) := by decide +kernel
theorem dX11_give_36 : decode cX11_give 36 = .ok (.iconst (-1), 1) := by decide +kernel
theorem dX11_give_37 : decode cX11_give 37 = .ok (.ireturn, 1) := by decide +kernel
theorem dX11_give_38 : decode cX11_give 38 = .ok (.aload_n 0, 1) := by decide +kernel
theorem dX11_give_39 : decode cX11_give 39 = .ok (.getfield 37, 3) := by decide +kernel
theorem dX11_give_42 : decode cX11_give 42 = .ok (.getfield 108, 3) := by decide +kernel
theorem dX11_give_45 : decode cX11_give 45 = .ok (.iload_n 1, 1) := by decide +kernel
theorem dX11_give_46 : decode cX11_give 46 = .ok (.invokevirtual 139, 3) := by decide +kernel
theorem dX11_give_49 : decode cX11_give 49 = .ok (.ifCond .ne 17, 3) := by decide +kernel
theorem dX11_give_52 : decode cX11_give 52 = .ok (.aload_n 0, 1) := by decide +kernel
theorem dX11_give_53 : decode cX11_give 53 = .ok (.getfield 37, 3) := by decide +kernel
theorem dX11_give_56 : decode cX11_give 56 = .ok (.getfield 108, 3) := by decide +kernel
theorem dX11_give_59 : decode cX11_give 59 = .ok (.iload_n 2, 1) := by decide +kernel
theorem dX11_give_60 : decode cX11_give 60 = .ok (.invokevirtual 139, 3) := by decide +kernel
theorem dX11_give_63 : decode cX11_give 63 = .ok (.ifCond .eq 6, 3) := by decide +kernel
theorem dX11_give_66 : decode cX11_give 66 = .ok (.bipush (-3), 2) := by decide +kernel
theorem dX11_give_68 : decode cX11_give 68 = .ok (.ireturn, 1) := by decide +kernel
theorem dX11_give_69 : decode cX11_give 69 = .ok (.aload_n 0, 1) := by decide +kernel
theorem dX11_give_70 : decode cX11_give 70 = .ok (.getfield 37, 3) := by decide +kernel
theorem dX11_give_73 : decode cX11_give 73 = .ok (.getfield 158, 3) := by decide +kernel
theorem dX11_give_76 : decode cX11_give 76 = .ok (.iload_n 1, 1) := by decide +kernel
theorem dX11_give_77 : decode cX11_give 77 = .ok (.invokevirtual 162, 3) := by decide +kernel
theorem dX11_give_80 : decode cX11_give 80 = .ok (.ifCond .eq 6, 3) := by decide +kernel
theorem dX11_give_83 : decode cX11_give 83 = .ok (.bipush (-4), 2) := by decide +kernel
theorem dX11_give_85 : decode cX11_give 85 = .ok (.ireturn, 1) := by decide +kernel
theorem dX11_give_86 : decode cX11_give 86 = .ok (.aload_n 0, 1) := by decide +kernel
theorem dX11_give_87 : decode cX11_give 87 = .ok (.getfield 41, 3) := by decide +kernel
theorem dX11_give_90 : decode cX11_give 90 = .ok (.aload_n 0, 1) := by decide +kernel
theorem dX11_give_91 : decode cX11_give 91 = .ok (.getfield 37, 3) := by decide +kernel
theorem dX11_give_94 : decode cX11_give 94 = .ok (.invokevirtual 117, 3) := by decide +kernel
theorem dX11_give_97 : decode cX11_give 97 = .ok (.aload_n 0, 1) := by decide +kernel
theorem dX11_give_98 : decode cX11_give 98 = .ok (.getfield 37, 3) := by decide +kernel
theorem dX11_give_101 : decode cX11_give 101 = .ok (.getfield 158, 3) := by decide +kernel
theorem dX11_give_104 : decode cX11_give 104 = .ok (.iload_n 1, 1) := by decide +kernel
theorem dX11_give_105 : decode cX11_give 105 = .ok (.iload_n 2, 1) := by decide +kernel
theorem dX11_give_106 : decode cX11_give 106 = .ok (.iload_n 3, 1) := by decide +kernel
theorem dX11_give_107 : decode cX11_give 107 = .ok (.invokevirtual 167, 3) := by decide +kernel
theorem dX11_give_110 : decode cX11_give 110 = .ok (.aload_n 0, 1) := by decide +kernel
theorem dX11_give_111 : decode cX11_give 111 = .ok (.getfield 37, 3) := by decide +kernel
theorem dX11_give_114 : decode cX11_give 114 = .ok (.getfield 158, 3) := by decide +kernel
theorem dX11_give_117 : decode cX11_give 117 = .ok (.iload_n 2, 1) := by decide +kernel
theorem dX11_give_118 : decode cX11_give 118 = .ok (.invokevirtual 171, 3) := by decide +kernel
theorem dX11_give_121 : decode cX11_give 121 = .ok (.invokestatic 174, 3) := by decide +kernel
theorem dX11_give_124 : decode cX11_give 124 = .ok (.ireturn, 1) := by decide +kernel
theorem dX11_takeBack_0 : decode cX11_takeBack 0 = .ok (.aload_n 0, 1) := by decide +kernel
theorem dX11_takeBack_1 : decode cX11_takeBack 1 = .ok (.iload_n 1, 1) := by decide +kernel
theorem dX11_takeBack_2 : decode cX11_takeBack 2 = .ok (.invokevirtual 136, 3) := by decide +kernel
theorem dX11_takeBack_5 : decode cX11_takeBack 5 = .ok (.ifCond .ne 5, 3) := by decide +kernel
theorem dX11_takeBack_8 : decode cX11_takeBack 8 = .ok (.iconst (-1), 1) := by decide +kernel
theorem dX11_takeBack_9 : decode cX11_takeBack 9 = .ok (.ireturn, 1) := by decide +kernel
theorem dX11_takeBack_10 : decode cX11_takeBack 10 = .ok (.aload_n 0, 1) := by decide +kernel
theorem dX11_takeBack_11 : decode cX11_takeBack 11 = .ok (.getfield 37, 3) := by decide +kernel
theorem dX11_takeBack_14 : decode cX11_takeBack 14 = .ok (.getfield 158, 3) := by decide +kernel
theorem dX11_takeBack_17 : decode cX11_takeBack 17 = .ok (.iload_n 1, 1) := by decide +kernel
theorem dX11_takeBack_18 : decode cX11_takeBack 18 = .ok (.invokevirtual 162, 3) := by decide +kernel
theorem dX11_takeBack_21 : decode cX11_takeBack 21 = .ok (.iconst 1, 1) := by decide +kernel
theorem dX11_takeBack_22 : decode cX11_takeBack 22 = .ok (.if_icmp .ne 7, 3) := by decide +kernel
theorem dX11_takeBack_25 : decode cX11_takeBack 25 = .ok (.iconst 1, 1) := by decide +kernel
theorem dX11_takeBack_26 : decode cX11_takeBack 26 = .ok (.goto 4, 3) := by decide +kernel
theorem dX11_takeBack_29 : decode cX11_takeBack 29 = .ok (.iconst 0, 1) := by decide +kernel
theorem dX11_takeBack_30 : decode cX11_takeBack 30 = .ok (.istore_n 2, 1) := by decide +kernel
theorem dX11_takeBack_31 : decode cX11_takeBack 31 = .ok (.aload_n 0, 1) := by decide +kernel
theorem dX11_takeBack_32 : decode cX11_takeBack 32 = .ok (.getfield 37, 3) := by decide +kernel
theorem dX11_takeBack_35 : decode cX11_takeBack 35 = .ok (.getfield 158, 3) := by decide +kernel
theorem dX11_takeBack_38 : decode cX11_takeBack 38 = .ok (.iload_n 1, 1) := by decide +kernel
theorem dX11_takeBack_39 : decode cX11_takeBack 39 = .ok (.invokevirtual 179, 3) := by decide +kernel
theorem dX11_takeBack_42 : decode cX11_takeBack 42 = .ok (.istore_n 3, 1) := by decide +kernel
theorem dX11_takeBack_43 : decode cX11_takeBack 43 = .ok (.aload_n 0, 1) := by decide +kernel
theorem dX11_takeBack_44 : decode cX11_takeBack 44 = .ok (.getfield 37, 3) := by decide +kernel
theorem dX11_takeBack_47 : decode cX11_takeBack 47 = .ok (.getfield 108, 3) := by decide +kernel
theorem dX11_takeBack_50 : decode cX11_takeBack 50 = .ok (.iload_n 1, 1) := by decide +kernel
theorem dX11_takeBack_51 : decode cX11_takeBack 51 = .ok (.invokevirtual 139, 3) := by decide +kernel
theorem dX11_takeBack_54 : decode cX11_takeBack 54 = .ok (.ifCond .ne 21, 3) := by decide +kernel
theorem dX11_takeBack_57 : decode cX11_takeBack 57 = .ok (.iload_n 2, 1) := by decide +kernel
theorem dX11_takeBack_58 : decode cX11_takeBack 58 = .ok (.ifCond .eq 20, 3) := by decide +kernel
theorem dX11_takeBack_61 : decode cX11_takeBack 61 = .ok (.aload_n 0, 1) := by decide +kernel
theorem dX11_takeBack_62 : decode cX11_takeBack 62 = .ok (.getfield 37, 3) := by decide +kernel
theorem dX11_takeBack_65 : decode cX11_takeBack 65 = .ok (.getfield 108, 3) := by decide +kernel
theorem dX11_takeBack_68 : decode cX11_takeBack 68 = .ok (.iload_n 3, 1) := by decide +kernel
theorem dX11_takeBack_69 : decode cX11_takeBack 69 = .ok (.invokevirtual 139, 3) := by decide +kernel
theorem dX11_takeBack_72 : decode cX11_takeBack 72 = .ok (.ifCond .eq 6, 3) := by decide +kernel
theorem dX11_takeBack_75 : decode cX11_takeBack 75 = .ok (.bipush (-3), 2) := by decide +kernel
theorem dX11_takeBack_77 : decode cX11_takeBack 77 = .ok (.ireturn, 1) := by decide +kernel
theorem dX11_takeBack_78 : decode cX11_takeBack 78 = .ok (.iload_n 2, 1) := by decide +kernel
theorem dX11_takeBack_79 : decode cX11_takeBack 79 = .ok (.ifCond .ne 6, 3) := by decide +kernel
theorem dX11_takeBack_82 : decode cX11_takeBack 82 = .ok (.bipush (-4), 2) := by decide +kernel
theorem dX11_takeBack_84 : decode cX11_takeBack 84 = .ok (.ireturn, 1) := by decide +kernel
theorem dX11_takeBack_85 : decode cX11_takeBack 85 = .ok (.aload_n 0, 1) := by decide +kernel
theorem dX11_takeBack_86 : decode cX11_takeBack 86 = .ok (.getfield 41, 3) := by decide +kernel
theorem dX11_takeBack_89 : decode cX11_takeBack 89 = .ok (.aload_n 0, 1) := by decide +kernel
theorem dX11_takeBack_90 : decode cX11_takeBack 90 = .ok (.getfield 37, 3) := by decide +kernel
theorem dX11_takeBack_93 : decode cX11_takeBack 93 = .ok (.invokevirtual 117, 3) := by decide +kernel
theorem dX11_takeBack_96 : decode cX11_takeBack 96 = .ok (.aload_n 0, 1) := by decide +kernel
theorem dX11_takeBack_97 : decode cX11_takeBack 97 = .ok (.getfield 37, 3) := by decide +kernel
theorem dX11_takeBack_100 : decode cX11_takeBack 100 = .ok (.getfield 158, 3) := by decide +kernel
theorem dX11_takeBack_103 : decode cX11_takeBack 103 = .ok (.iload_n 1, 1) := by decide +kernel
theorem dX11_takeBack_104 : decode cX11_takeBack 104 = .ok (.invokevirtual 182, 3) := by decide +kernel
theorem dX11_takeBack_107 : decode cX11_takeBack 107 = .ok (.iload_n 3, 1) := by decide +kernel
theorem dX11_takeBack_108 : decode cX11_takeBack 108 = .ok (.ireturn, 1) := by decide +kernel
theorem dX11_lay_0 : decode cX11_lay 0 = .ok (.aload_n 0, 1) := by decide +kernel
theorem dX11_lay_1 : decode cX11_lay 1 = .ok (.iload_n 1, 1) := by decide +kernel
theorem dX11_lay_2 : decode cX11_lay 2 = .ok (.iload_n 2, 1) := by decide +kernel
theorem dX11_lay_3 : decode cX11_lay 3 = .ok (.iload_n 3, 1) := by decide +kernel
theorem dX11_lay_4 : decode cX11_lay 4 = .ok (.invokevirtual 185, 3) := by decide +kernel
theorem dX11_lay_7 : decode cX11_lay 7 = .ok (.istore 4, 2) := by decide +kernel
theorem dX11_lay_9 : decode cX11_lay 9 = .ok (.iload 4, 2) := by decide +kernel
theorem dX11_lay_11 : decode cX11_lay 11 = .ok (.ifCond .eq 6, 3) := by decide +kernel
theorem dX11_lay_14 : decode cX11_lay 14 = .ok (.iload 4, 2) := by decide +kernel
theorem dX11_lay_16 : decode cX11_lay 16 = .ok (.ireturn, 1) := by decide +kernel
theorem dX11_lay_17 : decode cX11_lay 17 = .ok (.aload_n 0, 1) := by decide +kernel
theorem dX11_lay_18 : decode cX11_lay 18 = .ok (.getfield 41, 3) := by decide +kernel
theorem dX11_lay_21 : decode cX11_lay 21 = .ok (.aload_n 0, 1) := by decide +kernel
theorem dX11_lay_22 : decode cX11_lay 22 = .ok (.getfield 37, 3) := by decide +kernel
theorem dX11_lay_25 : decode cX11_lay 25 = .ok (.invokevirtual 117, 3) := by decide +kernel
theorem dX11_lay_28 : decode cX11_lay 28 = .ok (.aload_n 0, 1) := by decide +kernel
theorem dX11_lay_29 : decode cX11_lay 29 = .ok (.getfield 24, 3) := by decide +kernel
theorem dX11_lay_32 : decode cX11_lay 32 = .ok (.iload_n 1, 1) := by decide +kernel
theorem dX11_lay_33 : decode cX11_lay 33 = .ok (.iload_n 2, 1) := by decide +kernel
theorem dX11_lay_34 : decode cX11_lay 34 = .ok (.iload_n 3, 1) := by decide +kernel
theorem dX11_lay_35 : decode cX11_lay 35 = .ok (.invokevirtual 189, 3) := by decide +kernel
theorem dX11_lay_38 : decode cX11_lay 38 = .ok (.ireturn, 1) := by decide +kernel
theorem dX11_contest_0 : decode cX11_contest 0 = .ok (.aload_n 0, 1) := by decide +kernel
theorem dX11_contest_1 : decode cX11_contest 1 = .ok (.iload_n 1, 1) := by decide +kernel
theorem dX11_contest_2 : decode cX11_contest 2 = .ok (.invokevirtual 136, 3) := by decide +kernel
theorem dX11_contest_5 : decode cX11_contest 5 = .ok (.ifCond .eq 11, 3) := by decide +kernel
theorem dX11_contest_8 : decode cX11_contest 8 = .ok (.aload_n 0, 1) := by decide +kernel
theorem dX11_contest_9 : decode cX11_contest 9 = .ok (.iload_n 2, 1) := by decide +kernel
theorem dX11_contest_10 : decode cX11_contest 10 = .ok (.invokevirtual 136, 3) := by decide +kernel
theorem dX11_contest_13 : decode cX11_contest 13 = .ok (.ifCond .ne 5, 3) := by decide +kernel
theorem dX11_contest_16 : decode cX11_contest 16 = .ok (.iconst (-1), 1) := by decide +kernel
theorem dX11_contest_17 : decode cX11_contest 17 = .ok (.ireturn, 1) := by decide +kernel
theorem dX11_contest_18 : decode cX11_contest 18 = .ok (.aload_n 0, 1) := by decide +kernel
theorem dX11_contest_19 : decode cX11_contest 19 = .ok (.getfield 37, 3) := by decide +kernel
theorem dX11_contest_22 : decode cX11_contest 22 = .ok (.getfield 108, 3) := by decide +kernel
theorem dX11_contest_25 : decode cX11_contest 25 = .ok (.iload_n 1, 1) := by decide +kernel
theorem dX11_contest_26 : decode cX11_contest 26 = .ok (.invokevirtual 139, 3) := by decide +kernel
theorem dX11_contest_29 : decode cX11_contest 29 = .ok (.ifCond .eq 6, 3) := by decide +kernel
theorem dX11_contest_32 : decode cX11_contest 32 = .ok (.bipush (-3), 2) := by decide +kernel
theorem dX11_contest_34 : decode cX11_contest 34 = .ok (.ireturn, 1) := by decide +kernel
theorem dX11_contest_35 : decode cX11_contest 35 = .ok (.aload_n 0, 1) := by decide +kernel
theorem dX11_contest_36 : decode cX11_contest 36 = .ok (.getfield 37, 3) := by decide +kernel
theorem dX11_contest_39 : decode cX11_contest 39 = .ok (.getfield 158, 3) := by decide +kernel
theorem dX11_contest_42 : decode cX11_contest 42 = .ok (.iload_n 2, 1) := by decide +kernel
theorem dX11_contest_43 : decode cX11_contest 43 = .ok (.invokevirtual 162, 3) := by decide +kernel
theorem dX11_contest_46 : decode cX11_contest 46 = .ok (.iconst 2, 1) := by decide +kernel
theorem dX11_contest_47 : decode cX11_contest 47 = .ok (.if_icmp .eq 6, 3) := by decide +kernel
theorem dX11_contest_50 : decode cX11_contest 50 = .ok (.bipush (-4), 2) := by decide +kernel
theorem dX11_contest_52 : decode cX11_contest 52 = .ok (.ireturn, 1) := by decide +kernel
theorem dX11_contest_53 : decode cX11_contest 53 = .ok (.aload_n 0, 1) := by decide +kernel
theorem dX11_contest_54 : decode cX11_contest 54 = .ok (.getfield 37, 3) := by decide +kernel
theorem dX11_contest_57 : decode cX11_contest 57 = .ok (.getfield 108, 3) := by decide +kernel
theorem dX11_contest_60 : decode cX11_contest 60 = .ok (.iload_n 1, 1) := by decide +kernel
theorem dX11_contest_61 : decode cX11_contest 61 = .ok (.invokevirtual 192, 3) := by decide +kernel
theorem dX11_contest_64 : decode cX11_contest 64 = .ok (.iconst 3, 1) := by decide +kernel
theorem dX11_contest_65 : decode cX11_contest 65 = .ok (.if_icmp .lt 6, 3) := by decide +kernel
theorem dX11_contest_68 : decode cX11_contest 68 = .ok (.bipush (-4), 2) := by decide +kernel
theorem dX11_contest_70 : decode cX11_contest 70 = .ok (.ireturn, 1) := by decide +kernel
theorem dX11_contest_71 : decode cX11_contest 71 = .ok (.aload_n 0, 1) := by decide +kernel
theorem dX11_contest_72 : decode cX11_contest 72 = .ok (.getfield 24, 3) := by decide +kernel
theorem dX11_contest_75 : decode cX11_contest 75 = .ok (.invokevirtual 148, 3) := by decide +kernel
theorem dX11_contest_78 : decode cX11_contest 78 = .ok (.ifCond .ne 17, 3) := by decide +kernel
theorem dX11_contest_81 : decode cX11_contest 81 = .ok (.aload_n 0, 1) := by decide +kernel
theorem dX11_contest_82 : decode cX11_contest 82 = .ok (.getfield 24, 3) := by decide +kernel
theorem dX11_contest_85 : decode cX11_contest 85 = .ok (.invokevirtual 195, 3) := by decide +kernel
theorem dX11_contest_88 : decode cX11_contest 88 = .ok (.iconst 2, 1) := by decide +kernel
theorem dX11_contest_89 : decode cX11_contest 89 = .ok (.if_icmp .eq 6, 3) := by decide +kernel
theorem dX11_contest_92 : decode cX11_contest 92 = .ok (.bipush (-5), 2) := by decide +kernel
theorem dX11_contest_94 : decode cX11_contest 94 = .ok (.ireturn, 1) := by decide +kernel
theorem dX11_contest_95 : decode cX11_contest 95 = .ok (.aload_n 0, 1) := by decide +kernel
theorem dX11_contest_96 : decode cX11_contest 96 = .ok (.getfield 41, 3) := by decide +kernel
theorem dX11_contest_99 : decode cX11_contest 99 = .ok (.aload_n 0, 1) := by decide +kernel
theorem dX11_contest_100 : decode cX11_contest 100 = .ok (.getfield 37, 3) := by decide +kernel
theorem dX11_contest_103 : decode cX11_contest 103 = .ok (.invokevirtual 117, 3) := by decide +kernel
theorem dX11_contest_106 : decode cX11_contest 106 = .ok (.aload_n 0, 1) := by decide +kernel
theorem dX11_contest_107 : decode cX11_contest 107 = .ok (.getfield 24, 3) := by decide +kernel
theorem dX11_contest_110 : decode cX11_contest 110 = .ok (.iload_n 1, 1) := by decide +kernel
theorem dX11_contest_111 : decode cX11_contest 111 = .ok (.iload_n 2, 1) := by decide +kernel
theorem dX11_contest_112 : decode cX11_contest 112 = .ok (.invokevirtual 198, 3) := by decide +kernel
theorem dX11_contest_115 : decode cX11_contest 115 = .ok (.ireturn, 1) := by decide +kernel
theorem dX11_close_0 : decode cX11_close 0 = .ok (.aload_n 0, 1) := by decide +kernel
theorem dX11_close_1 : decode cX11_close 1 = .ok (.getfield 24, 3) := by decide +kernel
theorem dX11_close_4 : decode cX11_close 4 = .ok (.invokevirtual 148, 3) := by decide +kernel
theorem dX11_close_7 : decode cX11_close 7 = .ok (.ifCond .ne 6, 3) := by decide +kernel
theorem dX11_close_10 : decode cX11_close 10 = .ok (.bipush (-5), 2) := by decide +kernel
theorem dX11_close_12 : decode cX11_close 12 = .ok (.ireturn, 1) := by decide +kernel
theorem dX11_close_13 : decode cX11_close 13 = .ok (.aload_n 0, 1) := by decide +kernel
theorem dX11_close_14 : decode cX11_close 14 = .ok (.getfield 41, 3) := by decide +kernel
theorem dX11_close_17 : decode cX11_close 17 = .ok (.aload_n 0, 1) := by decide +kernel
theorem dX11_close_18 : decode cX11_close 18 = .ok (.getfield 37, 3) := by decide +kernel
theorem dX11_close_21 : decode cX11_close 21 = .ok (.invokevirtual 117, 3) := by decide +kernel
theorem dX11_close_24 : decode cX11_close 24 = .ok (.aload_n 0, 1) := by decide +kernel
theorem dX11_close_25 : decode cX11_close 25 = .ok (.getfield 24, 3) := by decide +kernel
theorem dX11_close_28 : decode cX11_close 28 = .ok (.invokevirtual 201, 3) := by decide +kernel
theorem dX11_close_31 : decode cX11_close 31 = .ok (.ireturn, 1) := by decide +kernel
theorem dX11_recount_0 : decode cX11_recount 0 = .ok (.aload_n 0, 1) := by decide +kernel
theorem dX11_recount_1 : decode cX11_recount 1 = .ok (.getfield 24, 3) := by decide +kernel
theorem dX11_recount_4 : decode cX11_recount 4 = .ok (.invokevirtual 195, 3) := by decide +kernel
theorem dX11_recount_7 : decode cX11_recount 7 = .ok (.iconst 2, 1) := by decide +kernel
theorem dX11_recount_8 : decode cX11_recount 8 = .ok (.if_icmp .eq 6, 3) := by decide +kernel
theorem dX11_recount_11 : decode cX11_recount 11 = .ok (.bipush (-5), 2) := by decide +kernel
theorem dX11_recount_13 : decode cX11_recount 13 = .ok (.ireturn, 1) := by decide +kernel
theorem dX11_recount_14 : decode cX11_recount 14 = .ok (.aload_n 0, 1) := by decide +kernel
theorem dX11_recount_15 : decode cX11_recount 15 = .ok (.getfield 37, 3) := by decide +kernel
theorem dX11_recount_18 : decode cX11_recount 18 = .ok (.getfield 204, 3) := by decide +kernel
theorem dX11_recount_21 : decode cX11_recount 21 = .ok (.aload_n 0, 1) := by decide +kernel
theorem dX11_recount_22 : decode cX11_recount 22 = .ok (.getfield 32, 3) := by decide +kernel
theorem dX11_recount_25 : decode cX11_recount 25 = .ok (.bipush 9, 2) := by decide +kernel
theorem dX11_recount_27 : decode cX11_recount 27 = .ok (.invokevirtual 207, 3) := by decide +kernel
theorem dX11_recount_30 : decode cX11_recount 30 = .ok (.if_icmp .lt 6, 3) := by decide +kernel
theorem dX11_recount_33 : decode cX11_recount 33 = .ok (.bipush (-5), 2) := by decide +kernel
theorem dX11_recount_35 : decode cX11_recount 35 = .ok (.ireturn, 1) := by decide +kernel
theorem dX11_recount_36 : decode cX11_recount 36 = .ok (.aload_n 0, 1) := by decide +kernel
theorem dX11_recount_37 : decode cX11_recount 37 = .ok (.getfield 41, 3) := by decide +kernel
theorem dX11_recount_40 : decode cX11_recount 40 = .ok (.aload_n 0, 1) := by decide +kernel
theorem dX11_recount_41 : decode cX11_recount 41 = .ok (.getfield 37, 3) := by decide +kernel
theorem dX11_recount_44 : decode cX11_recount 44 = .ok (.invokevirtual 117, 3) := by decide +kernel
theorem dX11_recount_47 : decode cX11_recount 47 = .ok (.aload_n 0, 1) := by decide +kernel
theorem dX11_recount_48 : decode cX11_recount 48 = .ok (.getfield 24, 3) := by decide +kernel
theorem dX11_recount_51 : decode cX11_recount 51 = .ok (.invokevirtual 210, 3) := by decide +kernel
theorem dX11_recount_54 : decode cX11_recount 54 = .ok (.ireturn, 1) := by decide +kernel
theorem dX11_pass_0 : decode cX11_pass 0 = .ok (.iload_n 1, 1) := by decide +kernel
theorem dX11_pass_1 : decode cX11_pass 1 = .ok (.invokestatic 105, 3) := by decide +kernel
theorem dX11_pass_4 : decode cX11_pass 4 = .ok (.ifCond .ne 5, 3) := by decide +kernel
theorem dX11_pass_7 : decode cX11_pass 7 = .ok (.iconst (-1), 1) := by decide +kernel
theorem dX11_pass_8 : decode cX11_pass 8 = .ok (.ireturn, 1) := by decide +kernel
theorem dX11_pass_9 : decode cX11_pass 9 = .ok (.aload_n 0, 1) := by decide +kernel
theorem dX11_pass_10 : decode cX11_pass 10 = .ok (.getfield 41, 3) := by decide +kernel
theorem dX11_pass_13 : decode cX11_pass 13 = .ok (.aload_n 0, 1) := by decide +kernel
theorem dX11_pass_14 : decode cX11_pass 14 = .ok (.getfield 37, 3) := by decide +kernel
theorem dX11_pass_17 : decode cX11_pass 17 = .ok (.invokevirtual 117, 3) := by decide +kernel
theorem dX11_pass_20 : decode cX11_pass 20 = .ok (.aload_n 0, 1) := by decide +kernel
theorem dX11_pass_21 : decode cX11_pass 21 = .ok (.getfield 24, 3) := by decide +kernel
theorem dX11_pass_24 : decode cX11_pass 24 = .ok (.iload_n 1, 1) := by decide +kernel
theorem dX11_pass_25 : decode cX11_pass 25 = .ok (.invokevirtual 213, 3) := by decide +kernel
theorem dX11_pass_28 : decode cX11_pass 28 = .ok (.ireturn, 1) := by decide +kernel
theorem dX11_keep_0 : decode cX11_keep 0 = .ok (.aload_n 0, 1) := by decide +kernel
theorem dX11_keep_1 : decode cX11_keep 1 = .ok (.iload_n 1, 1) := by decide +kernel
theorem dX11_keep_2 : decode cX11_keep 2 = .ok (.invokevirtual 216, 3) := by decide +kernel
theorem dX11_keep_5 : decode cX11_keep 5 = .ok (.ifCond .ne 5, 3) := by decide +kernel
theorem dX11_keep_8 : decode cX11_keep 8 = .ok (.iconst (-1), 1) := by decide +kernel
theorem dX11_keep_9 : decode cX11_keep 9 = .ok (.ireturn, 1) := by decide +kernel
theorem dX11_keep_10 : decode cX11_keep 10 = .ok (.aload_n 0, 1) := by decide +kernel
theorem dX11_keep_11 : decode cX11_keep 11 = .ok (.getfield 48, 3) := by decide +kernel
theorem dX11_keep_14 : decode cX11_keep 14 = .ok (.iload_n 1, 1) := by decide +kernel
theorem dX11_keep_15 : decode cX11_keep 15 = .ok (.aaload, 1) := by decide +kernel
theorem dX11_keep_16 : decode cX11_keep 16 = .ok (.aload_n 0, 1) := by decide +kernel
theorem dX11_keep_17 : decode cX11_keep 17 = .ok (.getfield 37, 3) := by decide +kernel
theorem dX11_keep_20 : decode cX11_keep 20 = .ok (.invokevirtual 219, 3) := by decide +kernel
theorem dX11_keep_23 : decode cX11_keep 23 = .ok (.aload_n 0, 1) := by decide +kernel
theorem dX11_keep_24 : decode cX11_keep 24 = .ok (.getfield 52, 3) := by decide +kernel
theorem dX11_keep_27 : decode cX11_keep 27 = .ok (.iload_n 1, 1) := by decide +kernel
theorem dX11_keep_28 : decode cX11_keep 28 = .ok (.iconst 1, 1) := by decide +kernel
theorem dX11_keep_29 : decode cX11_keep 29 = .ok (.bastore, 1) := by decide +kernel
theorem dX11_keep_30 : decode cX11_keep 30 = .ok (.aload_n 0, 1) := by decide +kernel
theorem dX11_keep_31 : decode cX11_keep 31 = .ok (.getfield 37, 3) := by decide +kernel
theorem dX11_keep_34 : decode cX11_keep 34 = .ok (.getfield 222, 3) := by decide +kernel
theorem dX11_keep_37 : decode cX11_keep 37 = .ok (.ireturn, 1) := by decide +kernel
theorem dX11_restore_0 : decode cX11_restore 0 = .ok (.aload_n 0, 1) := by decide +kernel
theorem dX11_restore_1 : decode cX11_restore 1 = .ok (.iload_n 1, 1) := by decide +kernel
theorem dX11_restore_2 : decode cX11_restore 2 = .ok (.invokevirtual 216, 3) := by decide +kernel
theorem dX11_restore_5 : decode cX11_restore 5 = .ok (.ifCond .ne 5, 3) := by decide +kernel
theorem dX11_restore_8 : decode cX11_restore 8 = .ok (.iconst (-1), 1) := by decide +kernel
theorem dX11_restore_9 : decode cX11_restore 9 = .ok (.ireturn, 1) := by decide +kernel
theorem dX11_restore_10 : decode cX11_restore 10 = .ok (.aload_n 0, 1) := by decide +kernel
theorem dX11_restore_11 : decode cX11_restore 11 = .ok (.getfield 52, 3) := by decide +kernel
theorem dX11_restore_14 : decode cX11_restore 14 = .ok (.iload_n 1, 1) := by decide +kernel
theorem dX11_restore_15 : decode cX11_restore 15 = .ok (.baload, 1) := by decide +kernel
theorem dX11_restore_16 : decode cX11_restore 16 = .ok (.ifCond .ne 6, 3) := by decide +kernel
theorem dX11_restore_19 : decode cX11_restore 19 = .ok (.bipush (-2), 2) := by decide +kernel
theorem dX11_restore_21 : decode cX11_restore 21 = .ok (.ireturn, 1) := by decide +kernel
theorem dX11_restore_22 : decode cX11_restore 22 = .ok (.aload_n 0, 1) := by decide +kernel
theorem dX11_restore_23 : decode cX11_restore 23 = .ok (.getfield 41, 3) := by decide +kernel
theorem dX11_restore_26 : decode cX11_restore 26 = .ok (.aload_n 0, 1) := by decide +kernel
theorem dX11_restore_27 : decode cX11_restore 27 = .ok (.getfield 37, 3) := by decide +kernel
theorem dX11_restore_30 : decode cX11_restore 30 = .ok (.invokevirtual 117, 3) := by decide +kernel
theorem dX11_restore_33 : decode cX11_restore 33 = .ok (.aload_n 0, 1) := by decide +kernel
theorem dX11_restore_34 : decode cX11_restore 34 = .ok (.getfield 37, 3) := by decide +kernel
theorem dX11_restore_37 : decode cX11_restore 37 = .ok (.aload_n 0, 1) := by decide +kernel
theorem dX11_restore_38 : decode cX11_restore 38 = .ok (.getfield 48, 3) := by decide +kernel
theorem dX11_restore_41 : decode cX11_restore 41 = .ok (.iload_n 1, 1) := by decide +kernel
theorem dX11_restore_42 : decode cX11_restore 42 = .ok (.aaload, 1) := by decide +kernel
theorem dX11_restore_43 : decode cX11_restore 43 = .ok (.invokevirtual 219, 3) := by decide +kernel
theorem dX11_restore_46 : decode cX11_restore 46 = .ok (.aload_n 0, 1) := by decide +kernel
theorem dX11_restore_47 : decode cX11_restore 47 = .ok (.getfield 37, 3) := by decide +kernel
theorem dX11_restore_50 : decode cX11_restore 50 = .ok (.getfield 222, 3) := by decide +kernel
theorem dX11_restore_53 : decode cX11_restore 53 = .ok (.ireturn, 1) := by decide +kernel
theorem dX11_undo_0 : decode cX11_undo 0 = .ok (.aload_n 0, 1) := by decide +kernel
theorem dX11_undo_1 : decode cX11_undo 1 = .ok (.getfield 41, 3) := by decide +kernel
theorem dX11_undo_4 : decode cX11_undo 4 = .ok (.aload_n 0, 1) := by decide +kernel
theorem dX11_undo_5 : decode cX11_undo 5 = .ok (.getfield 37, 3) := by decide +kernel
theorem dX11_undo_8 : decode cX11_undo 8 = .ok (.invokevirtual 225, 3) := by decide +kernel
theorem dX11_undo_11 : decode cX11_undo 11 = .ok (.ifCond .eq 13, 3) := by decide +kernel
theorem dX11_undo_14 : decode cX11_undo 14 = .ok (.aload_n 0, 1) := by decide +kernel
theorem dX11_undo_15 : decode cX11_undo 15 = .ok (.getfield 41, 3) := by decide +kernel
theorem dX11_undo_18 : decode cX11_undo 18 = .ok (.invokevirtual 229, 3) := by decide +kernel
theorem dX11_undo_21 : decode cX11_undo 21 = .ok (.goto 4, 3) := by decide +kernel
theorem dX11_undo_24 : decode cX11_undo 24 = .ok (.iconst (-1), 1) := by decide +kernel
theorem dX11_undo_25 : decode cX11_undo 25 = .ok (.ireturn, 1) := by decide +kernel
theorem dX11_value_0 : decode cX11_value 0 = .ok (.iload_n 1, 1) := by decide +kernel
theorem dX11_value_1 : decode cX11_value 1 = .ok (.tableswitch 273 0 16 #[83, 91, 106, 114, 122, 133, 144, 152, 163, 171, 179, 202, 213, 221, 229, 240, 259], 83) := by decide +kernel
theorem dX11_value_84 : decode cX11_value 84 = .ok (.aload_n 0, 1) := by decide +kernel
theorem dX11_value_85 : decode cX11_value 85 = .ok (.getfield 37, 3) := by decide +kernel
theorem dX11_value_88 : decode cX11_value 88 = .ok (.getfield 222, 3) := by decide +kernel
theorem dX11_value_91 : decode cX11_value 91 = .ok (.ireturn, 1) := by decide +kernel
theorem dX11_value_92 : decode cX11_value 92 = .ok (.aload_n 0, 1) := by decide +kernel
theorem dX11_value_93 : decode cX11_value 93 = .ok (.getfield 24, 3) := by decide +kernel
theorem dX11_value_96 : decode cX11_value 96 = .ok (.aload_n 0, 1) := by decide +kernel
theorem dX11_value_97 : decode cX11_value 97 = .ok (.getfield 37, 3) := by decide +kernel
theorem dX11_value_100 : decode cX11_value 100 = .ok (.getfield 222, 3) := by decide +kernel
theorem dX11_value_103 : decode cX11_value 103 = .ok (.invokevirtual 232, 3) := by decide +kernel
theorem dX11_value_106 : decode cX11_value 106 = .ok (.ireturn, 1) := by decide +kernel
theorem dX11_value_107 : decode cX11_value 107 = .ok (.aload_n 0, 1) := by decide +kernel
theorem dX11_value_108 : decode cX11_value 108 = .ok (.getfield 32, 3) := by decide +kernel
theorem dX11_value_111 : decode cX11_value 111 = .ok (.invokevirtual 96, 3) := by decide +kernel
theorem dX11_value_114 : decode cX11_value 114 = .ok (.ireturn, 1) := by decide +kernel
theorem dX11_value_115 : decode cX11_value 115 = .ok (.aload_n 0, 1) := by decide +kernel
theorem dX11_value_116 : decode cX11_value 116 = .ok (.getfield 32, 3) := by decide +kernel
theorem dX11_value_119 : decode cX11_value 119 = .ok (.invokevirtual 235, 3) := by decide +kernel
theorem dX11_value_122 : decode cX11_value 122 = .ok (.ireturn, 1) := by decide +kernel
theorem dX11_value_123 : decode cX11_value 123 = .ok (.aload_n 0, 1) := by decide +kernel
theorem dX11_value_124 : decode cX11_value 124 = .ok (.getfield 37, 3) := by decide +kernel
theorem dX11_value_127 : decode cX11_value 127 = .ok (.getfield 108, 3) := by decide +kernel
theorem dX11_value_130 : decode cX11_value 130 = .ok (.invokevirtual 238, 3) := by decide +kernel
theorem dX11_value_133 : decode cX11_value 133 = .ok (.ireturn, 1) := by decide +kernel
theorem dX11_value_134 : decode cX11_value 134 = .ok (.aload_n 0, 1) := by decide +kernel
theorem dX11_value_135 : decode cX11_value 135 = .ok (.getfield 37, 3) := by decide +kernel
theorem dX11_value_138 : decode cX11_value 138 = .ok (.getfield 108, 3) := by decide +kernel
theorem dX11_value_141 : decode cX11_value 141 = .ok (.invokevirtual 241, 3) := by decide +kernel
theorem dX11_value_144 : decode cX11_value 144 = .ok (.ireturn, 1) := by decide +kernel
theorem dX11_value_145 : decode cX11_value 145 = .ok (.aload_n 0, 1) := by decide +kernel
theorem dX11_value_146 : decode cX11_value 146 = .ok (.getfield 24, 3) := by decide +kernel
theorem dX11_value_149 : decode cX11_value 149 = .ok (.invokevirtual 244, 3) := by decide +kernel
theorem dX11_value_152 : decode cX11_value 152 = .ok (.ireturn, 1) := by decide +kernel
theorem dX11_value_153 : decode cX11_value 153 = .ok (.aload_n 0, 1) := by decide +kernel
theorem dX11_value_154 : decode cX11_value 154 = .ok (.getfield 37, 3) := by decide +kernel
theorem dX11_value_157 : decode cX11_value 157 = .ok (.getfield 158, 3) := by decide +kernel
theorem dX11_value_160 : decode cX11_value 160 = .ok (.invokevirtual 247, 3) := by decide +kernel
theorem dX11_value_163 : decode cX11_value 163 = .ok (.ireturn, 1) := by decide +kernel
theorem dX11_value_164 : decode cX11_value 164 = .ok (.aload_n 0, 1) := by decide +kernel
theorem dX11_value_165 : decode cX11_value 165 = .ok (.getfield 24, 3) := by decide +kernel
theorem dX11_value_168 : decode cX11_value 168 = .ok (.invokevirtual 195, 3) := by decide +kernel
theorem dX11_value_171 : decode cX11_value 171 = .ok (.ireturn, 1) := by decide +kernel
theorem dX11_value_172 : decode cX11_value 172 = .ok (.aload_n 0, 1) := by decide +kernel
theorem dX11_value_173 : decode cX11_value 173 = .ok (.getfield 37, 3) := by decide +kernel
theorem dX11_value_176 : decode cX11_value 176 = .ok (.getfield 250, 3) := by decide +kernel
theorem dX11_value_179 : decode cX11_value 179 = .ok (.ireturn, 1) := by decide +kernel
theorem dX11_value_180 : decode cX11_value 180 = .ok (.aload_n 0, 1) := by decide +kernel
theorem dX11_value_181 : decode cX11_value 181 = .ok (.getfield 24, 3) := by decide +kernel
theorem dX11_value_184 : decode cX11_value 184 = .ok (.invokevirtual 148, 3) := by decide +kernel
theorem dX11_value_187 : decode cX11_value 187 = .ok (.ifCond .eq 8, 3) := by decide +kernel
theorem dX11_value_190 : decode cX11_value 190 = .ok (.bipush (-2), 2) := by decide +kernel
theorem dX11_value_192 : decode cX11_value 192 = .ok (.goto 10, 3) := by decide +kernel
theorem dX11_value_195 : decode cX11_value 195 = .ok (.aload_n 0, 1) := by decide +kernel
theorem dX11_value_196 : decode cX11_value 196 = .ok (.getfield 24, 3) := by decide +kernel
theorem dX11_value_199 : decode cX11_value 199 = .ok (.invokevirtual 253, 3) := by decide +kernel
theorem dX11_value_202 : decode cX11_value 202 = .ok (.ireturn, 1) := by decide +kernel
theorem dX11_value_203 : decode cX11_value 203 = .ok (.aload_n 0, 1) := by decide +kernel
theorem dX11_value_204 : decode cX11_value 204 = .ok (.getfield 37, 3) := by decide +kernel
theorem dX11_value_207 : decode cX11_value 207 = .ok (.getfield 158, 3) := by decide +kernel
theorem dX11_value_210 : decode cX11_value 210 = .ok (.invokevirtual 256, 3) := by decide +kernel
theorem dX11_value_213 : decode cX11_value 213 = .ok (.ireturn, 1) := by decide +kernel
theorem dX11_value_214 : decode cX11_value 214 = .ok (.aload_n 0, 1) := by decide +kernel
theorem dX11_value_215 : decode cX11_value 215 = .ok (.getfield 37, 3) := by decide +kernel
theorem dX11_value_218 : decode cX11_value 218 = .ok (.getfield 204, 3) := by decide +kernel
theorem dX11_value_221 : decode cX11_value 221 = .ok (.ireturn, 1) := by decide +kernel
theorem dX11_value_222 : decode cX11_value 222 = .ok (.aload_n 0, 1) := by decide +kernel
theorem dX11_value_223 : decode cX11_value 223 = .ok (.getfield 37, 3) := by decide +kernel
theorem dX11_value_226 : decode cX11_value 226 = .ok (.getfield 259, 3) := by decide +kernel
theorem dX11_value_229 : decode cX11_value 229 = .ok (.ireturn, 1) := by decide +kernel
theorem dX11_value_230 : decode cX11_value 230 = .ok (.aload_n 0, 1) := by decide +kernel
theorem dX11_value_231 : decode cX11_value 231 = .ok (.getfield 37, 3) := by decide +kernel
theorem dX11_value_234 : decode cX11_value 234 = .ok (.getfield 262, 3) := by decide +kernel
theorem dX11_value_237 : decode cX11_value 237 = .ok (.invokevirtual 266, 3) := by decide +kernel
theorem dX11_value_240 : decode cX11_value 240 = .ok (.ireturn, 1) := by decide +kernel
theorem dX11_value_241 : decode cX11_value 241 = .ok (.aload_n 0, 1) := by decide +kernel
theorem dX11_value_242 : decode cX11_value 242 = .ok (.getfield 32, 3) := by decide +kernel
theorem dX11_value_245 : decode cX11_value 245 = .ok (.invokevirtual 96, 3) := by decide +kernel
theorem dX11_value_248 : decode cX11_value 248 = .ok (.aload_n 0, 1) := by decide +kernel
theorem dX11_value_249 : decode cX11_value 249 = .ok (.getfield 37, 3) := by decide +kernel
theorem dX11_value_252 : decode cX11_value 252 = .ok (.getfield 108, 3) := by decide +kernel
theorem dX11_value_255 : decode cX11_value 255 = .ok (.invokevirtual 241, 3) := by decide +kernel
theorem dX11_value_258 : decode cX11_value 258 = .ok (.isub, 1) := by decide +kernel
theorem dX11_value_259 : decode cX11_value 259 = .ok (.ireturn, 1) := by decide +kernel
theorem dX11_value_260 : decode cX11_value 260 = .ok (.aload_n 0, 1) := by decide +kernel
theorem dX11_value_261 : decode cX11_value 261 = .ok (.getfield 37, 3) := by decide +kernel
theorem dX11_value_264 : decode cX11_value 264 = .ok (.getfield 158, 3) := by decide +kernel
theorem dX11_value_267 : decode cX11_value 267 = .ok (.invokevirtual 271, 3) := by decide +kernel
theorem dX11_value_270 : decode cX11_value 270 = .ok (.invokestatic 174, 3) := by decide +kernel
theorem dX11_value_273 : decode cX11_value 273 = .ok (.ireturn, 1) := by decide +kernel
theorem dX11_value_274 : decode cX11_value 274 = .ok (.iconst (-1), 1) := by decide +kernel
theorem dX11_value_275 : decode cX11_value 275 = .ok (.ireturn, 1) := by decide +kernel
theorem dX11_person_0 : decode cX11_person 0 = .ok (.aload_n 0, 1) := by decide +kernel
theorem dX11_person_1 : decode cX11_person 1 = .ok (.iload_n 1, 1) := by decide +kernel
theorem dX11_person_2 : decode cX11_person 2 = .ok (.invokevirtual 136, 3) := by decide +kernel
theorem dX11_person_5 : decode cX11_person 5 = .ok (.ifCond .ne 5, 3) := by decide +kernel
theorem dX11_person_8 : decode cX11_person 8 = .ok (.iconst (-1), 1) := by decide +kernel
theorem dX11_person_9 : decode cX11_person 9 = .ok (.ireturn, 1) := by decide +kernel
theorem dX11_person_10 : decode cX11_person 10 = .ok (.iload_n 2, 1) := by decide +kernel
theorem dX11_person_11 : decode cX11_person 11 = .ok (.tableswitch 133 0 6 #[41, 53, 73, 82, 94, 109, 121], 41) := by decide +kernel
theorem dX11_person_52 : decode cX11_person 52 = .ok (.aload_n 0, 1) := by decide +kernel
theorem dX11_person_53 : decode cX11_person 53 = .ok (.getfield 37, 3) := by decide +kernel
theorem dX11_person_56 : decode cX11_person 56 = .ok (.getfield 108, 3) := by decide +kernel
theorem dX11_person_59 : decode cX11_person 59 = .ok (.iload_n 1, 1) := by decide +kernel
theorem dX11_person_60 : decode cX11_person 60 = .ok (.invokevirtual 142, 3) := by decide +kernel
theorem dX11_person_63 : decode cX11_person 63 = .ok (.ireturn, 1) := by decide +kernel
theorem dX11_person_64 : decode cX11_person 64 = .ok (.aload_n 0, 1) := by decide +kernel
theorem dX11_person_65 : decode cX11_person 65 = .ok (.getfield 37, 3) := by decide +kernel
theorem dX11_person_68 : decode cX11_person 68 = .ok (.getfield 108, 3) := by decide +kernel
theorem dX11_person_71 : decode cX11_person 71 = .ok (.iload_n 1, 1) := by decide +kernel
theorem dX11_person_72 : decode cX11_person 72 = .ok (.invokevirtual 139, 3) := by decide +kernel
theorem dX11_person_75 : decode cX11_person 75 = .ok (.ifCond .eq 7, 3) := by decide +kernel
theorem dX11_person_78 : decode cX11_person 78 = .ok (.iconst 1, 1) := by decide +kernel
theorem dX11_person_79 : decode cX11_person 79 = .ok (.goto 4, 3) := by decide +kernel
theorem dX11_person_82 : decode cX11_person 82 = .ok (.iconst 0, 1) := by decide +kernel
theorem dX11_person_83 : decode cX11_person 83 = .ok (.ireturn, 1) := by decide +kernel
theorem dX11_person_84 : decode cX11_person 84 = .ok (.aload_n 0, 1) := by decide +kernel
theorem dX11_person_85 : decode cX11_person 85 = .ok (.getfield 24, 3) := by decide +kernel
theorem dX11_person_88 : decode cX11_person 88 = .ok (.iload_n 1, 1) := by decide +kernel
theorem dX11_person_89 : decode cX11_person 89 = .ok (.invokevirtual 274, 3) := by decide +kernel
theorem dX11_person_92 : decode cX11_person 92 = .ok (.ireturn, 1) := by decide +kernel
theorem dX11_person_93 : decode cX11_person 93 = .ok (.aload_n 0, 1) := by decide +kernel
theorem dX11_person_94 : decode cX11_person 94 = .ok (.getfield 37, 3) := by decide +kernel
theorem dX11_person_97 : decode cX11_person 97 = .ok (.getfield 108, 3) := by decide +kernel
theorem dX11_person_100 : decode cX11_person 100 = .ok (.iload_n 1, 1) := by decide +kernel
theorem dX11_person_101 : decode cX11_person 101 = .ok (.invokevirtual 192, 3) := by decide +kernel
theorem dX11_person_104 : decode cX11_person 104 = .ok (.ireturn, 1) := by decide +kernel
theorem dX11_person_105 : decode cX11_person 105 = .ok (.aload_n 0, 1) := by decide +kernel
theorem dX11_person_106 : decode cX11_person 106 = .ok (.getfield 37, 3) := by decide +kernel
theorem dX11_person_109 : decode cX11_person 109 = .ok (.getfield 158, 3) := by decide +kernel
theorem dX11_person_112 : decode cX11_person 112 = .ok (.iload_n 1, 1) := by decide +kernel
theorem dX11_person_113 : decode cX11_person 113 = .ok (.invokevirtual 171, 3) := by decide +kernel
theorem dX11_person_116 : decode cX11_person 116 = .ok (.invokestatic 174, 3) := by decide +kernel
theorem dX11_person_119 : decode cX11_person 119 = .ok (.ireturn, 1) := by decide +kernel
theorem dX11_person_120 : decode cX11_person 120 = .ok (.aload_n 0, 1) := by decide +kernel
theorem dX11_person_121 : decode cX11_person 121 = .ok (.getfield 37, 3) := by decide +kernel
theorem dX11_person_124 : decode cX11_person 124 = .ok (.getfield 158, 3) := by decide +kernel
theorem dX11_person_127 : decode cX11_person 127 = .ok (.iload_n 1, 1) := by decide +kernel
theorem dX11_person_128 : decode cX11_person 128 = .ok (.invokevirtual 277, 3) := by decide +kernel
theorem dX11_person_131 : decode cX11_person 131 = .ok (.ireturn, 1) := by decide +kernel
theorem dX11_person_132 : decode cX11_person 132 = .ok (.aload_n 0, 1) := by decide +kernel
theorem dX11_person_133 : decode cX11_person 133 = .ok (.getfield 37, 3) := by decide +kernel
theorem dX11_person_136 : decode cX11_person 136 = .ok (.getfield 108, 3) := by decide +kernel
theorem dX11_person_139 : decode cX11_person 139 = .ok (.iload_n 1, 1) := by decide +kernel
theorem dX11_person_140 : decode cX11_person 140 = .ok (.invokevirtual 280, 3) := by decide +kernel
theorem dX11_person_143 : decode cX11_person 143 = .ok (.ireturn, 1) := by decide +kernel
theorem dX11_person_144 : decode cX11_person 144 = .ok (.iconst (-1), 1) := by decide +kernel
theorem dX11_person_145 : decode cX11_person 145 = .ok (.ireturn, 1) := by decide +kernel
theorem dX11_boat_0 : decode cX11_boat 0 = .ok (.aload_n 0, 1) := by decide +kernel
theorem dX11_boat_1 : decode cX11_boat 1 = .ok (.iload_n 1, 1) := by decide +kernel
theorem dX11_boat_2 : decode cX11_boat 2 = .ok (.invokevirtual 101, 3) := by decide +kernel
theorem dX11_boat_5 : decode cX11_boat 5 = .ok (.ifCond .ne 5, 3) := by decide +kernel
theorem dX11_boat_8 : decode cX11_boat 8 = .ok (.iconst (-1), 1) := by decide +kernel
theorem dX11_boat_9 : decode cX11_boat 9 = .ok (.ireturn, 1) := by decide +kernel
theorem dX11_boat_10 : decode cX11_boat 10 = .ok (.iload_n 2, 1) := by decide +kernel
theorem dX11_boat_11 : decode cX11_boat 11 = .ok (.tableswitch 125 0 4 #[33, 53, 89, 101, 113], 33) := by decide +kernel
theorem dX11_boat_44 : decode cX11_boat 44 = .ok (.aload_n 0, 1) := by decide +kernel
theorem dX11_boat_45 : decode cX11_boat 45 = .ok (.getfield 37, 3) := by decide +kernel
theorem dX11_boat_48 : decode cX11_boat 48 = .ok (.getfield 108, 3) := by decide +kernel
theorem dX11_boat_51 : decode cX11_boat 51 = .ok (.iload_n 1, 1) := by decide +kernel
theorem dX11_boat_52 : decode cX11_boat 52 = .ok (.invokevirtual 112, 3) := by decide +kernel
theorem dX11_boat_55 : decode cX11_boat 55 = .ok (.ifCond .eq 7, 3) := by decide +kernel
theorem dX11_boat_58 : decode cX11_boat 58 = .ok (.iconst 1, 1) := by decide +kernel
theorem dX11_boat_59 : decode cX11_boat 59 = .ok (.goto 4, 3) := by decide +kernel
theorem dX11_boat_62 : decode cX11_boat 62 = .ok (.iconst 0, 1) := by decide +kernel
theorem dX11_boat_63 : decode cX11_boat 63 = .ok (.ireturn, 1) := by decide +kernel
theorem dX11_boat_64 : decode cX11_boat 64 = .ok (.aload_n 0, 1) := by decide +kernel
theorem dX11_boat_65 : decode cX11_boat 65 = .ok (.getfield 37, 3) := by decide +kernel
theorem dX11_boat_68 : decode cX11_boat 68 = .ok (.getfield 108, 3) := by decide +kernel
theorem dX11_boat_71 : decode cX11_boat 71 = .ok (.iload_n 1, 1) := by decide +kernel
theorem dX11_boat_72 : decode cX11_boat 72 = .ok (.invokevirtual 112, 3) := by decide +kernel
theorem dX11_boat_75 : decode cX11_boat 75 = .ok (.ifCond .eq 17, 3) := by decide +kernel
theorem dX11_boat_78 : decode cX11_boat 78 = .ok (.aload_n 0, 1) := by decide +kernel
theorem dX11_boat_79 : decode cX11_boat 79 = .ok (.getfield 37, 3) := by decide +kernel
theorem dX11_boat_82 : decode cX11_boat 82 = .ok (.getfield 108, 3) := by decide +kernel
theorem dX11_boat_85 : decode cX11_boat 85 = .ok (.iload_n 1, 1) := by decide +kernel
theorem dX11_boat_86 : decode cX11_boat 86 = .ok (.invokevirtual 129, 3) := by decide +kernel
theorem dX11_boat_89 : decode cX11_boat 89 = .ok (.goto 10, 3) := by decide +kernel
theorem dX11_boat_92 : decode cX11_boat 92 = .ok (.aload_n 0, 1) := by decide +kernel
theorem dX11_boat_93 : decode cX11_boat 93 = .ok (.getfield 37, 3) := by decide +kernel
theorem dX11_boat_96 : decode cX11_boat 96 = .ok (.getfield 222, 3) := by decide +kernel
theorem dX11_boat_99 : decode cX11_boat 99 = .ok (.ireturn, 1) := by decide +kernel
theorem dX11_boat_100 : decode cX11_boat 100 = .ok (.aload_n 0, 1) := by decide +kernel
theorem dX11_boat_101 : decode cX11_boat 101 = .ok (.getfield 37, 3) := by decide +kernel
theorem dX11_boat_104 : decode cX11_boat 104 = .ok (.getfield 108, 3) := by decide +kernel
theorem dX11_boat_107 : decode cX11_boat 107 = .ok (.iload_n 1, 1) := by decide +kernel
theorem dX11_boat_108 : decode cX11_boat 108 = .ok (.invokevirtual 283, 3) := by decide +kernel
theorem dX11_boat_111 : decode cX11_boat 111 = .ok (.ireturn, 1) := by decide +kernel
theorem dX11_boat_112 : decode cX11_boat 112 = .ok (.aload_n 0, 1) := by decide +kernel
theorem dX11_boat_113 : decode cX11_boat 113 = .ok (.getfield 37, 3) := by decide +kernel
theorem dX11_boat_116 : decode cX11_boat 116 = .ok (.getfield 108, 3) := by decide +kernel
theorem dX11_boat_119 : decode cX11_boat 119 = .ok (.iload_n 1, 1) := by decide +kernel
theorem dX11_boat_120 : decode cX11_boat 120 = .ok (.invokevirtual 286, 3) := by decide +kernel
theorem dX11_boat_123 : decode cX11_boat 123 = .ok (.ireturn, 1) := by decide +kernel
theorem dX11_boat_124 : decode cX11_boat 124 = .ok (.aload_n 0, 1) := by decide +kernel
theorem dX11_boat_125 : decode cX11_boat 125 = .ok (.getfield 37, 3) := by decide +kernel
theorem dX11_boat_128 : decode cX11_boat 128 = .ok (.getfield 108, 3) := by decide +kernel
theorem dX11_boat_131 : decode cX11_boat 131 = .ok (.iload_n 1, 1) := by decide +kernel
theorem dX11_boat_132 : decode cX11_boat 132 = .ok (.invokevirtual 289, 3) := by decide +kernel
theorem dX11_boat_135 : decode cX11_boat 135 = .ok (.ireturn, 1) := by decide +kernel
theorem dX11_boat_136 : decode cX11_boat 136 = .ok (.iconst (-1), 1) := by decide +kernel
theorem dX11_boat_137 : decode cX11_boat 137 = .ok (.ireturn, 1) := by decide +kernel
theorem dX11_stick_0 : decode cX11_stick 0 = .ok (.aload_n 0, 1) := by decide +kernel
theorem dX11_stick_1 : decode cX11_stick 1 = .ok (.iload_n 1, 1) := by decide +kernel
theorem dX11_stick_2 : decode cX11_stick 2 = .ok (.invokevirtual 136, 3) := by decide +kernel
theorem dX11_stick_5 : decode cX11_stick 5 = .ok (.ifCond .ne 5, 3) := by decide +kernel
theorem dX11_stick_8 : decode cX11_stick 8 = .ok (.iconst (-1), 1) := by decide +kernel
theorem dX11_stick_9 : decode cX11_stick 9 = .ok (.ireturn, 1) := by decide +kernel
theorem dX11_stick_10 : decode cX11_stick 10 = .ok (.iload_n 2, 1) := by decide +kernel
theorem dX11_stick_11 : decode cX11_stick 11 = .ok (.tableswitch 109 0 5 #[37, 49, 61, 73, 85, 97], 37) := by decide +kernel
theorem dX11_stick_48 : decode cX11_stick 48 = .ok (.aload_n 0, 1) := by decide +kernel
theorem dX11_stick_49 : decode cX11_stick 49 = .ok (.getfield 37, 3) := by decide +kernel
theorem dX11_stick_52 : decode cX11_stick 52 = .ok (.getfield 158, 3) := by decide +kernel
theorem dX11_stick_55 : decode cX11_stick 55 = .ok (.iload_n 1, 1) := by decide +kernel
theorem dX11_stick_56 : decode cX11_stick 56 = .ok (.invokevirtual 162, 3) := by decide +kernel
theorem dX11_stick_59 : decode cX11_stick 59 = .ok (.ireturn, 1) := by decide +kernel
theorem dX11_stick_60 : decode cX11_stick 60 = .ok (.aload_n 0, 1) := by decide +kernel
theorem dX11_stick_61 : decode cX11_stick 61 = .ok (.getfield 37, 3) := by decide +kernel
theorem dX11_stick_64 : decode cX11_stick 64 = .ok (.getfield 158, 3) := by decide +kernel
theorem dX11_stick_67 : decode cX11_stick 67 = .ok (.iload_n 1, 1) := by decide +kernel
theorem dX11_stick_68 : decode cX11_stick 68 = .ok (.invokevirtual 179, 3) := by decide +kernel
theorem dX11_stick_71 : decode cX11_stick 71 = .ok (.ireturn, 1) := by decide +kernel
theorem dX11_stick_72 : decode cX11_stick 72 = .ok (.aload_n 0, 1) := by decide +kernel
theorem dX11_stick_73 : decode cX11_stick 73 = .ok (.getfield 37, 3) := by decide +kernel
theorem dX11_stick_76 : decode cX11_stick 76 = .ok (.getfield 158, 3) := by decide +kernel
theorem dX11_stick_79 : decode cX11_stick 79 = .ok (.iload_n 1, 1) := by decide +kernel
theorem dX11_stick_80 : decode cX11_stick 80 = .ok (.invokevirtual 292, 3) := by decide +kernel
theorem dX11_stick_83 : decode cX11_stick 83 = .ok (.ireturn, 1) := by decide +kernel
theorem dX11_stick_84 : decode cX11_stick 84 = .ok (.aload_n 0, 1) := by decide +kernel
theorem dX11_stick_85 : decode cX11_stick 85 = .ok (.getfield 37, 3) := by decide +kernel
theorem dX11_stick_88 : decode cX11_stick 88 = .ok (.getfield 158, 3) := by decide +kernel
theorem dX11_stick_91 : decode cX11_stick 91 = .ok (.iload_n 1, 1) := by decide +kernel
theorem dX11_stick_92 : decode cX11_stick 92 = .ok (.invokevirtual 295, 3) := by decide +kernel
theorem dX11_stick_95 : decode cX11_stick 95 = .ok (.ireturn, 1) := by decide +kernel
theorem dX11_stick_96 : decode cX11_stick 96 = .ok (.aload_n 0, 1) := by decide +kernel
theorem dX11_stick_97 : decode cX11_stick 97 = .ok (.getfield 37, 3) := by decide +kernel
theorem dX11_stick_100 : decode cX11_stick 100 = .ok (.getfield 158, 3) := by decide +kernel
theorem dX11_stick_103 : decode cX11_stick 103 = .ok (.iload_n 1, 1) := by decide +kernel
theorem dX11_stick_104 : decode cX11_stick 104 = .ok (.invokevirtual 298, 3) := by decide +kernel
theorem dX11_stick_107 : decode cX11_stick 107 = .ok (.ireturn, 1) := by decide +kernel
theorem dX11_stick_108 : decode cX11_stick 108 = .ok (.aload_n 0, 1) := by decide +kernel
theorem dX11_stick_109 : decode cX11_stick 109 = .ok (.getfield 37, 3) := by decide +kernel
theorem dX11_stick_112 : decode cX11_stick 112 = .ok (.getfield 158, 3) := by decide +kernel
theorem dX11_stick_115 : decode cX11_stick 115 = .ok (.iload_n 1, 1) := by decide +kernel
theorem dX11_stick_116 : decode cX11_stick 116 = .ok (.invokevirtual 301, 3) := by decide +kernel
theorem dX11_stick_119 : decode cX11_stick 119 = .ok (.ireturn, 1) := by decide +kernel
theorem dX11_stick_120 : decode cX11_stick 120 = .ok (.iconst (-1), 1) := by decide +kernel
theorem dX11_stick_121 : decode cX11_stick 121 = .ok (.ireturn, 1) := by decide +kernel
theorem dX11_basket_0 : decode cX11_basket 0 = .ok (.iload_n 1, 1) := by decide +kernel
theorem dX11_basket_1 : decode cX11_basket 1 = .ok (.invokestatic 155, 3) := by decide +kernel
theorem dX11_basket_4 : decode cX11_basket 4 = .ok (.ifCond .eq 17, 3) := by decide +kernel
theorem dX11_basket_7 : decode cX11_basket 7 = .ok (.aload_n 0, 1) := by decide +kernel
theorem dX11_basket_8 : decode cX11_basket 8 = .ok (.getfield 37, 3) := by decide +kernel
theorem dX11_basket_11 : decode cX11_basket 11 = .ok (.getfield 158, 3) := by decide +kernel
theorem dX11_basket_14 : decode cX11_basket 14 = .ok (.iload_n 1, 1) := by decide +kernel
theorem dX11_basket_15 : decode cX11_basket 15 = .ok (.invokevirtual 304, 3) := by decide +kernel
theorem dX11_basket_18 : decode cX11_basket 18 = .ok (.goto 4, 3) := by decide +kernel
theorem dX11_basket_21 : decode cX11_basket 21 = .ok (.iconst (-1), 1) := by decide +kernel
theorem dX11_basket_22 : decode cX11_basket 22 = .ok (.ireturn, 1) := by decide +kernel
theorem dX11_number_0 : decode cX11_number 0 = .ok (.iload_n 1, 1) := by decide +kernel
theorem dX11_number_1 : decode cX11_number 1 = .ok (.bipush 10, 2) := by decide +kernel
theorem dX11_number_3 : decode cX11_number 3 = .ok (.invokestatic 307, 3) := by decide +kernel
theorem dX11_number_6 : decode cX11_number 6 = .ok (.ifCond .eq 14, 3) := by decide +kernel
theorem dX11_number_9 : decode cX11_number 9 = .ok (.aload_n 0, 1) := by decide +kernel
theorem dX11_number_10 : decode cX11_number 10 = .ok (.getfield 32, 3) := by decide +kernel
theorem dX11_number_13 : decode cX11_number 13 = .ok (.iload_n 1, 1) := by decide +kernel
theorem dX11_number_14 : decode cX11_number 14 = .ok (.invokevirtual 207, 3) := by decide +kernel
theorem dX11_number_17 : decode cX11_number 17 = .ok (.goto 4, 3) := by decide +kernel
theorem dX11_number_20 : decode cX11_number 20 = .ok (.iconst (-1), 1) := by decide +kernel
theorem dX11_number_21 : decode cX11_number 21 = .ok (.ireturn, 1) := by decide +kernel
theorem dX11_past_0 : decode cX11_past 0 = .ok (.iload_n 1, 1) := by decide +kernel
theorem dX11_past_1 : decode cX11_past 1 = .ok (.ifCond .lt 11, 3) := by decide +kernel
theorem dX11_past_4 : decode cX11_past 4 = .ok (.iload_n 2, 1) := by decide +kernel
theorem dX11_past_5 : decode cX11_past 5 = .ok (.iconst 4, 1) := by decide +kernel
theorem dX11_past_6 : decode cX11_past 6 = .ok (.invokestatic 307, 3) := by decide +kernel
theorem dX11_past_9 : decode cX11_past 9 = .ok (.ifCond .ne 5, 3) := by decide +kernel
theorem dX11_past_12 : decode cX11_past 12 = .ok (.iconst (-1), 1) := by decide +kernel
theorem dX11_past_13 : decode cX11_past 13 = .ok (.ireturn, 1) := by decide +kernel
theorem dX11_past_14 : decode cX11_past 14 = .ok (.aload_n 0, 1) := by decide +kernel
theorem dX11_past_15 : decode cX11_past 15 = .ok (.getfield 37, 3) := by decide +kernel
theorem dX11_past_18 : decode cX11_past 18 = .ok (.getfield 311, 3) := by decide +kernel
theorem dX11_past_21 : decode cX11_past 21 = .ok (.iload_n 1, 1) := by decide +kernel
theorem dX11_past_22 : decode cX11_past 22 = .ok (.iload_n 2, 1) := by decide +kernel
theorem dX11_past_23 : decode cX11_past 23 = .ok (.invokevirtual 314, 3) := by decide +kernel
theorem dX11_past_26 : decode cX11_past 26 = .ok (.ireturn, 1) := by decide +kernel
theorem dX11_owners_0 : decode cX11_owners 0 = .ok (.iload_n 1, 1) := by decide +kernel
theorem dX11_owners_1 : decode cX11_owners 1 = .ok (.invokestatic 155, 3) := by decide +kernel
theorem dX11_owners_4 : decode cX11_owners 4 = .ok (.ifCond .eq 17, 3) := by decide +kernel
theorem dX11_owners_7 : decode cX11_owners 7 = .ok (.aload_n 0, 1) := by decide +kernel
theorem dX11_owners_8 : decode cX11_owners 8 = .ok (.getfield 37, 3) := by decide +kernel
theorem dX11_owners_11 : decode cX11_owners 11 = .ok (.getfield 158, 3) := by decide +kernel
theorem dX11_owners_14 : decode cX11_owners 14 = .ok (.iload_n 1, 1) := by decide +kernel
theorem dX11_owners_15 : decode cX11_owners 15 = .ok (.invokevirtual 329, 3) := by decide +kernel
theorem dX11_owners_18 : decode cX11_owners 18 = .ok (.goto 4, 3) := by decide +kernel
theorem dX11_owners_21 : decode cX11_owners 21 = .ok (.iconst (-1), 1) := by decide +kernel
theorem dX11_owners_22 : decode cX11_owners 22 = .ok (.ireturn, 1) := by decide +kernel
theorem dX11_carries_0 : decode cX11_carries 0 = .ok (.aload_n 0, 1) := by decide +kernel
theorem dX11_carries_1 : decode cX11_carries 1 = .ok (.iload_n 1, 1) := by decide +kernel
theorem dX11_carries_2 : decode cX11_carries 2 = .ok (.invokevirtual 136, 3) := by decide +kernel
theorem dX11_carries_5 : decode cX11_carries 5 = .ok (.ifCond .eq 17, 3) := by decide +kernel
theorem dX11_carries_8 : decode cX11_carries 8 = .ok (.aload_n 0, 1) := by decide +kernel
theorem dX11_carries_9 : decode cX11_carries 9 = .ok (.getfield 37, 3) := by decide +kernel
theorem dX11_carries_12 : decode cX11_carries 12 = .ok (.getfield 158, 3) := by decide +kernel
theorem dX11_carries_15 : decode cX11_carries 15 = .ok (.iload_n 1, 1) := by decide +kernel
theorem dX11_carries_16 : decode cX11_carries 16 = .ok (.invokevirtual 171, 3) := by decide +kernel
theorem dX11_carries_19 : decode cX11_carries 19 = .ok (.goto 4, 3) := by decide +kernel
theorem dX11_carries_22 : decode cX11_carries 22 = .ok (.iconst (-1), 1) := by decide +kernel
theorem dX11_carries_23 : decode cX11_carries 23 = .ok (.ireturn, 1) := by decide +kernel
theorem dX11_wrongOnes_0 : decode cX11_wrongOnes 0 = .ok (.aload_n 0, 1) := by decide +kernel
theorem dX11_wrongOnes_1 : decode cX11_wrongOnes 1 = .ok (.getfield 37, 3) := by decide +kernel
theorem dX11_wrongOnes_4 : decode cX11_wrongOnes 4 = .ok (.getfield 158, 3) := by decide +kernel
theorem dX11_wrongOnes_7 : decode cX11_wrongOnes 7 = .ok (.invokevirtual 271, 3) := by decide +kernel
theorem dX11_wrongOnes_10 : decode cX11_wrongOnes 10 = .ok (.ireturn, 1) := by decide +kernel
theorem dX11_why_0 : decode cX11_why 0 = .ok (.aload_n 0, 1) := by decide +kernel
theorem dX11_why_1 : decode cX11_why 1 = .ok (.iload_n 1, 1) := by decide +kernel
theorem dX11_why_2 : decode cX11_why 2 = .ok (.iload_n 2, 1) := by decide +kernel
theorem dX11_why_3 : decode cX11_why 3 = .ok (.iload_n 3, 1) := by decide +kernel
theorem dX11_why_4 : decode cX11_why 4 = .ok (.invokevirtual 185, 3) := by decide +kernel
theorem dX11_why_7 : decode cX11_why 7 = .ok (.istore 4, 2) := by decide +kernel
theorem dX11_why_9 : decode cX11_why 9 = .ok (.iload 4, 2) := by decide +kernel
theorem dX11_why_11 : decode cX11_why 11 = .ok (.ifCond .eq 8, 3) := by decide +kernel
theorem dX11_why_14 : decode cX11_why 14 = .ok (.iload 4, 2) := by decide +kernel
theorem dX11_why_16 : decode cX11_why 16 = .ok (.goto 13, 3) := by decide +kernel
theorem dX11_why_19 : decode cX11_why 19 = .ok (.aload_n 0, 1) := by decide +kernel
theorem dX11_why_20 : decode cX11_why 20 = .ok (.getfield 24, 3) := by decide +kernel
theorem dX11_why_23 : decode cX11_why 23 = .ok (.iload_n 1, 1) := by decide +kernel
theorem dX11_why_24 : decode cX11_why 24 = .ok (.iload_n 2, 1) := by decide +kernel
theorem dX11_why_25 : decode cX11_why 25 = .ok (.iload_n 3, 1) := by decide +kernel
theorem dX11_why_26 : decode cX11_why 26 = .ok (.invokevirtual 332, 3) := by decide +kernel
theorem dX11_why_29 : decode cX11_why 29 = .ok (.ireturn, 1) := by decide +kernel
theorem dX11_needIfHome_0 : decode cX11_needIfHome 0 = .ok (.aload_n 0, 1) := by decide +kernel
theorem dX11_needIfHome_1 : decode cX11_needIfHome 1 = .ok (.iload_n 1, 1) := by decide +kernel
theorem dX11_needIfHome_2 : decode cX11_needIfHome 2 = .ok (.invokevirtual 101, 3) := by decide +kernel
theorem dX11_needIfHome_5 : decode cX11_needIfHome 5 = .ok (.ifCond .ne 5, 3) := by decide +kernel
theorem dX11_needIfHome_8 : decode cX11_needIfHome 8 = .ok (.iconst (-1), 1) := by decide +kernel
theorem dX11_needIfHome_9 : decode cX11_needIfHome 9 = .ok (.ireturn, 1) := by decide +kernel
theorem dX11_needIfHome_10 : decode cX11_needIfHome 10 = .ok (.aload_n 0, 1) := by decide +kernel
theorem dX11_needIfHome_11 : decode cX11_needIfHome 11 = .ok (.getfield 37, 3) := by decide +kernel
theorem dX11_needIfHome_14 : decode cX11_needIfHome 14 = .ok (.getfield 108, 3) := by decide +kernel
theorem dX11_needIfHome_17 : decode cX11_needIfHome 17 = .ok (.iload_n 1, 1) := by decide +kernel
theorem dX11_needIfHome_18 : decode cX11_needIfHome 18 = .ok (.invokevirtual 112, 3) := by decide +kernel
theorem dX11_needIfHome_21 : decode cX11_needIfHome 21 = .ok (.ifCond .ne 6, 3) := by decide +kernel
theorem dX11_needIfHome_24 : decode cX11_needIfHome 24 = .ok (.bipush (-4), 2) := by decide +kernel
theorem dX11_needIfHome_26 : decode cX11_needIfHome 26 = .ok (.ireturn, 1) := by decide +kernel
theorem dX11_needIfHome_27 : decode cX11_needIfHome 27 = .ok (.aload_n 0, 1) := by decide +kernel
theorem dX11_needIfHome_28 : decode cX11_needIfHome 28 = .ok (.getfield 24, 3) := by decide +kernel
theorem dX11_needIfHome_31 : decode cX11_needIfHome 31 = .ok (.aload_n 0, 1) := by decide +kernel
theorem dX11_needIfHome_32 : decode cX11_needIfHome 32 = .ok (.getfield 37, 3) := by decide +kernel
theorem dX11_needIfHome_35 : decode cX11_needIfHome 35 = .ok (.getfield 222, 3) := by decide +kernel
theorem dX11_needIfHome_38 : decode cX11_needIfHome 38 = .ok (.aload_n 0, 1) := by decide +kernel
theorem dX11_needIfHome_39 : decode cX11_needIfHome 39 = .ok (.getfield 37, 3) := by decide +kernel
theorem dX11_needIfHome_42 : decode cX11_needIfHome 42 = .ok (.getfield 108, 3) := by decide +kernel
theorem dX11_needIfHome_45 : decode cX11_needIfHome 45 = .ok (.invokevirtual 238, 3) := by decide +kernel
theorem dX11_needIfHome_48 : decode cX11_needIfHome 48 = .ok (.iconst 1, 1) := by decide +kernel
theorem dX11_needIfHome_49 : decode cX11_needIfHome 49 = .ok (.isub, 1) := by decide +kernel
theorem dX11_needIfHome_50 : decode cX11_needIfHome 50 = .ok (.invokevirtual 335, 3) := by decide +kernel
theorem dX11_needIfHome_53 : decode cX11_needIfHome 53 = .ok (.ireturn, 1) := by decide +kernel
theorem dX11_leads_0 : decode cX11_leads 0 = .ok (.aload_n 0, 1) := by decide +kernel
theorem dX11_leads_1 : decode cX11_leads 1 = .ok (.getfield 24, 3) := by decide +kernel
theorem dX11_leads_4 : decode cX11_leads 4 = .ok (.invokevirtual 148, 3) := by decide +kernel
theorem dX11_leads_7 : decode cX11_leads 7 = .ok (.ifCond .eq 13, 3) := by decide +kernel
theorem dX11_leads_10 : decode cX11_leads 10 = .ok (.aload_n 0, 1) := by decide +kernel
theorem dX11_leads_11 : decode cX11_leads 11 = .ok (.getfield 24, 3) := by decide +kernel
theorem dX11_leads_14 : decode cX11_leads 14 = .ok (.invokevirtual 253, 3) := by decide +kernel
theorem dX11_leads_17 : decode cX11_leads 17 = .ok (.goto 5, 3) := by decide +kernel
theorem dX11_leads_20 : decode cX11_leads 20 = .ok (.bipush (-5), 2) := by decide +kernel
theorem dX11_leads_22 : decode cX11_leads 22 = .ok (.ireturn, 1) := by decide +kernel
theorem dX11_truly_0 : decode cX11_truly 0 = .ok (.aload_n 0, 1) := by decide +kernel
theorem dX11_truly_1 : decode cX11_truly 1 = .ok (.getfield 24, 3) := by decide +kernel
theorem dX11_truly_4 : decode cX11_truly 4 = .ok (.invokevirtual 195, 3) := by decide +kernel
theorem dX11_truly_7 : decode cX11_truly 7 = .ok (.ifCond .ne 8, 3) := by decide +kernel
theorem dX11_truly_10 : decode cX11_truly 10 = .ok (.bipush (-5), 2) := by decide +kernel
theorem dX11_truly_12 : decode cX11_truly 12 = .ok (.goto 10, 3) := by decide +kernel
theorem dX11_truly_15 : decode cX11_truly 15 = .ok (.aload_n 0, 1) := by decide +kernel
theorem dX11_truly_16 : decode cX11_truly 16 = .ok (.getfield 24, 3) := by decide +kernel
theorem dX11_truly_19 : decode cX11_truly 19 = .ok (.invokevirtual 338, 3) := by decide +kernel
theorem dX11_truly_22 : decode cX11_truly 22 = .ok (.ireturn, 1) := by decide +kernel
theorem dX11_canWin_0 : decode cX11_canWin 0 = .ok (.iload_n 1, 1) := by decide +kernel
theorem dX11_canWin_1 : decode cX11_canWin 1 = .ok (.invokestatic 155, 3) := by decide +kernel
theorem dX11_canWin_4 : decode cX11_canWin 4 = .ok (.ifCond .eq 24, 3) := by decide +kernel
theorem dX11_canWin_7 : decode cX11_canWin 7 = .ok (.aload_n 0, 1) := by decide +kernel
theorem dX11_canWin_8 : decode cX11_canWin 8 = .ok (.getfield 24, 3) := by decide +kernel
theorem dX11_canWin_11 : decode cX11_canWin 11 = .ok (.invokevirtual 148, 3) := by decide +kernel
theorem dX11_canWin_14 : decode cX11_canWin 14 = .ok (.ifCond .eq 14, 3) := by decide +kernel
theorem dX11_canWin_17 : decode cX11_canWin 17 = .ok (.iload_n 1, 1) := by decide +kernel
theorem dX11_canWin_18 : decode cX11_canWin 18 = .ok (.aload_n 0, 1) := by decide +kernel
theorem dX11_canWin_19 : decode cX11_canWin 19 = .ok (.getfield 37, 3) := by decide +kernel
theorem dX11_canWin_22 : decode cX11_canWin 22 = .ok (.getfield 250, 3) := by decide +kernel
theorem dX11_canWin_25 : decode cX11_canWin 25 = .ok (.if_icmp .lt 5, 3) := by decide +kernel
theorem dX11_canWin_28 : decode cX11_canWin 28 = .ok (.iconst 0, 1) := by decide +kernel
theorem dX11_canWin_29 : decode cX11_canWin 29 = .ok (.ireturn, 1) := by decide +kernel
theorem dX11_canWin_30 : decode cX11_canWin 30 = .ok (.aload_n 0, 1) := by decide +kernel
theorem dX11_canWin_31 : decode cX11_canWin 31 = .ok (.getfield 24, 3) := by decide +kernel
theorem dX11_canWin_34 : decode cX11_canWin 34 = .ok (.iload_n 1, 1) := by decide +kernel
theorem dX11_canWin_35 : decode cX11_canWin 35 = .ok (.invokevirtual 341, 3) := by decide +kernel
theorem dX11_canWin_38 : decode cX11_canWin 38 = .ok (.iload_n 1, 1) := by decide +kernel
theorem dX11_canWin_39 : decode cX11_canWin 39 = .ok (.if_icmp .ne 7, 3) := by decide +kernel
theorem dX11_canWin_42 : decode cX11_canWin 42 = .ok (.iconst 1, 1) := by decide +kernel
theorem dX11_canWin_43 : decode cX11_canWin 43 = .ok (.goto 4, 3) := by decide +kernel
theorem dX11_canWin_46 : decode cX11_canWin 46 = .ok (.iconst 0, 1) := by decide +kernel
theorem dX11_canWin_47 : decode cX11_canWin 47 = .ok (.ireturn, 1) := by decide +kernel
theorem dX11_lacks_0 : decode cX11_lacks 0 = .ok (.aload_n 0, 1) := by decide +kernel
theorem dX11_lacks_1 : decode cX11_lacks 1 = .ok (.getfield 24, 3) := by decide +kernel
theorem dX11_lacks_4 : decode cX11_lacks 4 = .ok (.invokevirtual 148, 3) := by decide +kernel
theorem dX11_lacks_7 : decode cX11_lacks 7 = .ok (.ifCond .ne 6, 3) := by decide +kernel
theorem dX11_lacks_10 : decode cX11_lacks 10 = .ok (.bipush (-5), 2) := by decide +kernel
theorem dX11_lacks_12 : decode cX11_lacks 12 = .ok (.ireturn, 1) := by decide +kernel
theorem dX11_lacks_13 : decode cX11_lacks 13 = .ok (.aload_n 0, 1) := by decide +kernel
theorem dX11_lacks_14 : decode cX11_lacks 14 = .ok (.getfield 24, 3) := by decide +kernel
theorem dX11_lacks_17 : decode cX11_lacks 17 = .ok (.invokevirtual 244, 3) := by decide +kernel
theorem dX11_lacks_20 : decode cX11_lacks 20 = .ok (.aload_n 0, 1) := by decide +kernel
theorem dX11_lacks_21 : decode cX11_lacks 21 = .ok (.getfield 37, 3) := by decide +kernel
theorem dX11_lacks_24 : decode cX11_lacks 24 = .ok (.getfield 158, 3) := by decide +kernel
theorem dX11_lacks_27 : decode cX11_lacks 27 = .ok (.invokevirtual 247, 3) := by decide +kernel
theorem dX11_lacks_30 : decode cX11_lacks 30 = .ok (.isub, 1) := by decide +kernel
theorem dX11_lacks_31 : decode cX11_lacks 31 = .ok (.iconst 0, 1) := by decide +kernel
theorem dX11_lacks_32 : decode cX11_lacks 32 = .ok (.invokestatic 347, 3) := by decide +kernel
theorem dX11_lacks_35 : decode cX11_lacks 35 = .ok (.ireturn, 1) := by decide +kernel
theorem dX11_needIn_0 : decode cX11_needIn 0 = .ok (.iload_n 1, 1) := by decide +kernel
theorem dX11_needIn_1 : decode cX11_needIn 1 = .ok (.ifCond .lt 10, 3) := by decide +kernel
theorem dX11_needIn_4 : decode cX11_needIn 4 = .ok (.iload_n 1, 1) := by decide +kernel
theorem dX11_needIn_5 : decode cX11_needIn 5 = .ok (.sipush 999, 3) := by decide +kernel
theorem dX11_needIn_8 : decode cX11_needIn 8 = .ok (.if_icmp .le 5, 3) := by decide +kernel
theorem dX11_needIn_11 : decode cX11_needIn 11 = .ok (.iconst (-1), 1) := by decide +kernel
theorem dX11_needIn_12 : decode cX11_needIn 12 = .ok (.ireturn, 1) := by decide +kernel
theorem dX11_needIn_13 : decode cX11_needIn 13 = .ok (.aload_n 0, 1) := by decide +kernel
theorem dX11_needIn_14 : decode cX11_needIn 14 = .ok (.getfield 24, 3) := by decide +kernel
theorem dX11_needIn_17 : decode cX11_needIn 17 = .ok (.iload_n 1, 1) := by decide +kernel
theorem dX11_needIn_18 : decode cX11_needIn 18 = .ok (.invokevirtual 352, 3) := by decide +kernel
theorem dX11_needIn_21 : decode cX11_needIn 21 = .ok (.ireturn, 1) := by decide +kernel
theorem dX11_bestDay_0 : decode cX11_bestDay 0 = .ok (.iload_n 1, 1) := by decide +kernel
theorem dX11_bestDay_1 : decode cX11_bestDay 1 = .ok (.invokestatic 105, 3) := by decide +kernel
theorem dX11_bestDay_4 : decode cX11_bestDay 4 = .ok (.ifCond .eq 14, 3) := by decide +kernel
theorem dX11_bestDay_7 : decode cX11_bestDay 7 = .ok (.aload_n 0, 1) := by decide +kernel
theorem dX11_bestDay_8 : decode cX11_bestDay 8 = .ok (.getfield 24, 3) := by decide +kernel
theorem dX11_bestDay_11 : decode cX11_bestDay 11 = .ok (.iload_n 1, 1) := by decide +kernel
theorem dX11_bestDay_12 : decode cX11_bestDay 12 = .ok (.invokevirtual 355, 3) := by decide +kernel
theorem dX11_bestDay_15 : decode cX11_bestDay 15 = .ok (.goto 4, 3) := by decide +kernel
theorem dX11_bestDay_18 : decode cX11_bestDay 18 = .ok (.iconst (-1), 1) := by decide +kernel
theorem dX11_bestDay_19 : decode cX11_bestDay 19 = .ok (.ireturn, 1) := by decide +kernel
theorem dX11_agrees_0 : decode cX11_agrees 0 = .ok (.aload_n 0, 1) := by decide +kernel
theorem dX11_agrees_1 : decode cX11_agrees 1 = .ok (.getfield 37, 3) := by decide +kernel
theorem dX11_agrees_4 : decode cX11_agrees 4 = .ok (.getfield 158, 3) := by decide +kernel
theorem dX11_agrees_7 : decode cX11_agrees 7 = .ok (.invokevirtual 247, 3) := by decide +kernel
theorem dX11_agrees_10 : decode cX11_agrees 10 = .ok (.aload_n 0, 1) := by decide +kernel
theorem dX11_agrees_11 : decode cX11_agrees 11 = .ok (.getfield 37, 3) := by decide +kernel
theorem dX11_agrees_14 : decode cX11_agrees 14 = .ok (.getfield 158, 3) := by decide +kernel
theorem dX11_agrees_17 : decode cX11_agrees 17 = .ok (.invokevirtual 256, 3) := by decide +kernel
theorem dX11_agrees_20 : decode cX11_agrees 20 = .ok (.iadd, 1) := by decide +kernel
theorem dX11_agrees_21 : decode cX11_agrees 21 = .ok (.aload_n 0, 1) := by decide +kernel
theorem dX11_agrees_22 : decode cX11_agrees 22 = .ok (.getfield 37, 3) := by decide +kernel
theorem dX11_agrees_25 : decode cX11_agrees 25 = .ok (.getfield 361, 3) := by decide +kernel
theorem dX11_agrees_28 : decode cX11_agrees 28 = .ok (.if_icmp .ne 7, 3) := by decide +kernel
theorem dX11_agrees_31 : decode cX11_agrees 31 = .ok (.iconst 1, 1) := by decide +kernel
theorem dX11_agrees_32 : decode cX11_agrees 32 = .ok (.goto 4, 3) := by decide +kernel
theorem dX11_agrees_35 : decode cX11_agrees 35 = .ok (.iconst 0, 1) := by decide +kernel
theorem dX11_agrees_36 : decode cX11_agrees 36 = .ok (.ireturn, 1) := by decide +kernel
theorem dX11_share_0 : decode cX11_share 0 = .ok (.iload_n 1, 1) := by decide +kernel
theorem dX11_share_1 : decode cX11_share 1 = .ok (.invokestatic 155, 3) := by decide +kernel
theorem dX11_share_4 : decode cX11_share 4 = .ok (.ifCond .ne 7, 3) := by decide +kernel
theorem dX11_share_7 : decode cX11_share 7 = .ok (.ldc_w 364, 3) := by decide +kernel
theorem dX11_share_10 : decode cX11_share 10 = .ok (.freturn, 1) := by decide +kernel
theorem dX11_share_11 : decode cX11_share 11 = .ok (.aload_n 0, 1) := by decide +kernel
theorem dX11_share_12 : decode cX11_share 12 = .ok (.getfield 37, 3) := by decide +kernel
theorem dX11_share_15 : decode cX11_share 15 = .ok (.getfield 158, 3) := by decide +kernel
theorem dX11_share_18 : decode cX11_share 18 = .ok (.invokevirtual 247, 3) := by decide +kernel
theorem dX11_share_21 : decode cX11_share 21 = .ok (.istore_n 2, 1) := by decide +kernel
theorem dX11_share_22 : decode cX11_share 22 = .ok (.iload_n 2, 1) := by decide +kernel
theorem dX11_share_23 : decode cX11_share 23 = .ok (.ifCond .ne 7, 3) := by decide +kernel
theorem dX11_share_26 : decode cX11_share 26 = .ok (.fconst 0, 1) := by decide +kernel
theorem dX11_share_27 : decode cX11_share 27 = .ok (.goto 18, 3) := by decide +kernel
theorem dX11_share_30 : decode cX11_share 30 = .ok (.aload_n 0, 1) := by decide +kernel
theorem dX11_share_31 : decode cX11_share 31 = .ok (.getfield 37, 3) := by decide +kernel
theorem dX11_share_34 : decode cX11_share 34 = .ok (.getfield 158, 3) := by decide +kernel
theorem dX11_share_37 : decode cX11_share 37 = .ok (.iload_n 1, 1) := by decide +kernel
theorem dX11_share_38 : decode cX11_share 38 = .ok (.invokevirtual 304, 3) := by decide +kernel
theorem dX11_share_41 : decode cX11_share 41 = .ok (.i2f, 1) := by decide +kernel
theorem dX11_share_42 : decode cX11_share 42 = .ok (.iload_n 2, 1) := by decide +kernel
theorem dX11_share_43 : decode cX11_share 43 = .ok (.i2f, 1) := by decide +kernel
theorem dX11_share_44 : decode cX11_share 44 = .ok (.fdiv, 1) := by decide +kernel
theorem dX11_share_45 : decode cX11_share 45 = .ok (.freturn, 1) := by decide +kernel
theorem dX11_seafaring_0 : decode cX11_seafaring 0 = .ok (.aload_n 0, 1) := by decide +kernel
theorem dX11_seafaring_1 : decode cX11_seafaring 1 = .ok (.getfield 37, 3) := by decide +kernel
theorem dX11_seafaring_4 : decode cX11_seafaring 4 = .ok (.getfield 222, 3) := by decide +kernel
theorem dX11_seafaring_7 : decode cX11_seafaring 7 = .ok (.i2l, 1) := by decide +kernel
theorem dX11_seafaring_8 : decode cX11_seafaring 8 = .ok (.aload_n 0, 1) := by decide +kernel
theorem dX11_seafaring_9 : decode cX11_seafaring 9 = .ok (.getfield 32, 3) := by decide +kernel
theorem dX11_seafaring_12 : decode cX11_seafaring 12 = .ok (.invokevirtual 96, 3) := by decide +kernel
theorem dX11_seafaring_15 : decode cX11_seafaring 15 = .ok (.i2l, 1) := by decide +kernel
theorem dX11_seafaring_16 : decode cX11_seafaring 16 = .ok (.lmul, 1) := by decide +kernel
theorem dX11_seafaring_17 : decode cX11_seafaring 17 = .ok (.lstore_n 1, 1) := by decide +kernel
theorem dX11_seafaring_18 : decode cX11_seafaring 18 = .ok (.lload_n 1, 1) := by decide +kernel
theorem dX11_seafaring_19 : decode cX11_seafaring 19 = .ok (.lconst 0, 1) := by decide +kernel
theorem dX11_seafaring_20 : decode cX11_seafaring 20 = .ok (.lcmp, 1) := by decide +kernel
theorem dX11_seafaring_21 : decode cX11_seafaring 21 = .ok (.ifCond .ne 7, 3) := by decide +kernel
theorem dX11_seafaring_24 : decode cX11_seafaring 24 = .ok (.dconst 0, 1) := by decide +kernel
theorem dX11_seafaring_25 : decode cX11_seafaring 25 = .ok (.goto 17, 3) := by decide +kernel
theorem dX11_seafaring_28 : decode cX11_seafaring 28 = .ok (.aload_n 0, 1) := by decide +kernel
theorem dX11_seafaring_29 : decode cX11_seafaring 29 = .ok (.getfield 37, 3) := by decide +kernel
theorem dX11_seafaring_32 : decode cX11_seafaring 32 = .ok (.getfield 108, 3) := by decide +kernel
theorem dX11_seafaring_35 : decode cX11_seafaring 35 = .ok (.invokevirtual 365, 3) := by decide +kernel
theorem dX11_seafaring_38 : decode cX11_seafaring 38 = .ok (.l2d, 1) := by decide +kernel
theorem dX11_seafaring_39 : decode cX11_seafaring 39 = .ok (.lload_n 1, 1) := by decide +kernel
theorem dX11_seafaring_40 : decode cX11_seafaring 40 = .ok (.l2d, 1) := by decide +kernel
theorem dX11_seafaring_41 : decode cX11_seafaring 41 = .ok (.ddiv, 1) := by decide +kernel
theorem dX11_seafaring_42 : decode cX11_seafaring 42 = .ok (.dreturn, 1) := by decide +kernel
theorem dX11_viewLength_0 : decode cX11_viewLength 0 = .ok (.aload_n 0, 1) := by decide +kernel
theorem dX11_viewLength_1 : decode cX11_viewLength 1 = .ok (.getfield 59, 3) := by decide +kernel
theorem dX11_viewLength_4 : decode cX11_viewLength 4 = .ok (.aload_n 0, 1) := by decide +kernel
theorem dX11_viewLength_5 : decode cX11_viewLength 5 = .ok (.getfield 32, 3) := by decide +kernel
theorem dX11_viewLength_8 : decode cX11_viewLength 8 = .ok (.aload_n 0, 1) := by decide +kernel
theorem dX11_viewLength_9 : decode cX11_viewLength 9 = .ok (.getfield 37, 3) := by decide +kernel
theorem dX11_viewLength_12 : decode cX11_viewLength 12 = .ok (.invokevirtual 369, 3) := by decide +kernel
theorem dX11_viewLength_15 : decode cX11_viewLength 15 = .ok (.invokevirtual 70, 3) := by decide +kernel
theorem dX11_viewLength_18 : decode cX11_viewLength 18 = .ok (.ireturn, 1) := by decide +kernel
theorem dX11_viewByte_0 : decode cX11_viewByte 0 = .ok (.iload_n 1, 1) := by decide +kernel
theorem dX11_viewByte_1 : decode cX11_viewByte 1 = .ok (.ifCond .ge 7, 3) := by decide +kernel
theorem dX11_viewByte_4 : decode cX11_viewByte 4 = .ok (.iconst (-1), 1) := by decide +kernel
theorem dX11_viewByte_5 : decode cX11_viewByte 5 = .ok (.goto 22, 3) := by decide +kernel
theorem dX11_viewByte_8 : decode cX11_viewByte 8 = .ok (.aload_n 0, 1) := by decide +kernel
theorem dX11_viewByte_9 : decode cX11_viewByte 9 = .ok (.getfield 59, 3) := by decide +kernel
theorem dX11_viewByte_12 : decode cX11_viewByte 12 = .ok (.aload_n 0, 1) := by decide +kernel
theorem dX11_viewByte_13 : decode cX11_viewByte 13 = .ok (.getfield 32, 3) := by decide +kernel
theorem dX11_viewByte_16 : decode cX11_viewByte 16 = .ok (.aload_n 0, 1) := by decide +kernel
theorem dX11_viewByte_17 : decode cX11_viewByte 17 = .ok (.getfield 37, 3) := by decide +kernel
theorem dX11_viewByte_20 : decode cX11_viewByte 20 = .ok (.invokevirtual 369, 3) := by decide +kernel
theorem dX11_viewByte_23 : decode cX11_viewByte 23 = .ok (.iload_n 1, 1) := by decide +kernel
theorem dX11_viewByte_24 : decode cX11_viewByte 24 = .ok (.invokevirtual 373, 3) := by decide +kernel
theorem dX11_viewByte_27 : decode cX11_viewByte 27 = .ok (.ireturn, 1) := by decide +kernel
theorem dX11_storyLength_0 : decode cX11_storyLength 0 = .ok (.aload_n 0, 1) := by decide +kernel
theorem dX11_storyLength_1 : decode cX11_storyLength 1 = .ok (.getfield 59, 3) := by decide +kernel
theorem dX11_storyLength_4 : decode cX11_storyLength 4 = .ok (.aload_n 0, 1) := by decide +kernel
theorem dX11_storyLength_5 : decode cX11_storyLength 5 = .ok (.getfield 37, 3) := by decide +kernel
theorem dX11_storyLength_8 : decode cX11_storyLength 8 = .ok (.getfield 262, 3) := by decide +kernel
theorem dX11_storyLength_11 : decode cX11_storyLength 11 = .ok (.invokevirtual 376, 3) := by decide +kernel
theorem dX11_storyLength_14 : decode cX11_storyLength 14 = .ok (.invokevirtual 70, 3) := by decide +kernel
theorem dX11_storyLength_17 : decode cX11_storyLength 17 = .ok (.ireturn, 1) := by decide +kernel
theorem dX11_storyByte_0 : decode cX11_storyByte 0 = .ok (.iload_n 1, 1) := by decide +kernel
theorem dX11_storyByte_1 : decode cX11_storyByte 1 = .ok (.ifCond .ge 7, 3) := by decide +kernel
theorem dX11_storyByte_4 : decode cX11_storyByte 4 = .ok (.iconst (-1), 1) := by decide +kernel
theorem dX11_storyByte_5 : decode cX11_storyByte 5 = .ok (.goto 21, 3) := by decide +kernel
theorem dX11_storyByte_8 : decode cX11_storyByte 8 = .ok (.aload_n 0, 1) := by decide +kernel
theorem dX11_storyByte_9 : decode cX11_storyByte 9 = .ok (.getfield 59, 3) := by decide +kernel
theorem dX11_storyByte_12 : decode cX11_storyByte 12 = .ok (.aload_n 0, 1) := by decide +kernel
theorem dX11_storyByte_13 : decode cX11_storyByte 13 = .ok (.getfield 37, 3) := by decide +kernel
theorem dX11_storyByte_16 : decode cX11_storyByte 16 = .ok (.getfield 262, 3) := by decide +kernel
theorem dX11_storyByte_19 : decode cX11_storyByte 19 = .ok (.invokevirtual 376, 3) := by decide +kernel
theorem dX11_storyByte_22 : decode cX11_storyByte 22 = .ok (.iload_n 1, 1) := by decide +kernel
theorem dX11_storyByte_23 : decode cX11_storyByte 23 = .ok (.invokevirtual 373, 3) := by decide +kernel
theorem dX11_storyByte_26 : decode cX11_storyByte 26 = .ok (.ireturn, 1) := by decide +kernel
theorem dX11_setupLength_0 : decode cX11_setupLength 0 = .ok (.aload_n 0, 1) := by decide +kernel
theorem dX11_setupLength_1 : decode cX11_setupLength 1 = .ok (.getfield 59, 3) := by decide +kernel
theorem dX11_setupLength_4 : decode cX11_setupLength 4 = .ok (.aload_n 0, 1) := by decide +kernel
theorem dX11_setupLength_5 : decode cX11_setupLength 5 = .ok (.getfield 32, 3) := by decide +kernel
theorem dX11_setupLength_8 : decode cX11_setupLength 8 = .ok (.aload_n 0, 1) := by decide +kernel
theorem dX11_setupLength_9 : decode cX11_setupLength 9 = .ok (.getfield 37, 3) := by decide +kernel
theorem dX11_setupLength_12 : decode cX11_setupLength 12 = .ok (.getfield 108, 3) := by decide +kernel
theorem dX11_setupLength_15 : decode cX11_setupLength 15 = .ok (.invokevirtual 380, 3) := by decide +kernel
theorem dX11_setupLength_18 : decode cX11_setupLength 18 = .ok (.invokevirtual 70, 3) := by decide +kernel
theorem dX11_setupLength_21 : decode cX11_setupLength 21 = .ok (.ireturn, 1) := by decide +kernel
theorem dX11_setupByte_0 : decode cX11_setupByte 0 = .ok (.iload_n 1, 1) := by decide +kernel
theorem dX11_setupByte_1 : decode cX11_setupByte 1 = .ok (.ifCond .ge 7, 3) := by decide +kernel
theorem dX11_setupByte_4 : decode cX11_setupByte 4 = .ok (.iconst (-1), 1) := by decide +kernel
theorem dX11_setupByte_5 : decode cX11_setupByte 5 = .ok (.goto 25, 3) := by decide +kernel
theorem dX11_setupByte_8 : decode cX11_setupByte 8 = .ok (.aload_n 0, 1) := by decide +kernel
theorem dX11_setupByte_9 : decode cX11_setupByte 9 = .ok (.getfield 59, 3) := by decide +kernel
theorem dX11_setupByte_12 : decode cX11_setupByte 12 = .ok (.aload_n 0, 1) := by decide +kernel
theorem dX11_setupByte_13 : decode cX11_setupByte 13 = .ok (.getfield 32, 3) := by decide +kernel
theorem dX11_setupByte_16 : decode cX11_setupByte 16 = .ok (.aload_n 0, 1) := by decide +kernel
theorem dX11_setupByte_17 : decode cX11_setupByte 17 = .ok (.getfield 37, 3) := by decide +kernel
theorem dX11_setupByte_20 : decode cX11_setupByte 20 = .ok (.getfield 108, 3) := by decide +kernel
theorem dX11_setupByte_23 : decode cX11_setupByte 23 = .ok (.invokevirtual 380, 3) := by decide +kernel
theorem dX11_setupByte_26 : decode cX11_setupByte 26 = .ok (.iload_n 1, 1) := by decide +kernel
theorem dX11_setupByte_27 : decode cX11_setupByte 27 = .ok (.invokevirtual 373, 3) := by decide +kernel
theorem dX11_setupByte_30 : decode cX11_setupByte 30 = .ok (.ireturn, 1) := by decide +kernel
theorem dX11_tapeLength_0 : decode cX11_tapeLength 0 = .ok (.aload_n 0, 1) := by decide +kernel
theorem dX11_tapeLength_1 : decode cX11_tapeLength 1 = .ok (.getfield 20, 3) := by decide +kernel
theorem dX11_tapeLength_4 : decode cX11_tapeLength 4 = .ok (.invokevirtual 70, 3) := by decide +kernel
theorem dX11_tapeLength_7 : decode cX11_tapeLength 7 = .ok (.ireturn, 1) := by decide +kernel
theorem dX11_isIn_0 : decode cX11_isIn 0 = .ok (.iload_n 0, 1) := by decide +kernel
theorem dX11_isIn_1 : decode cX11_isIn 1 = .ok (.ifCond .lt 12, 3) := by decide +kernel
theorem dX11_isIn_4 : decode cX11_isIn 4 = .ok (.iload_n 0, 1) := by decide +kernel
theorem dX11_isIn_5 : decode cX11_isIn 5 = .ok (.iload_n 1, 1) := by decide +kernel
theorem dX11_isIn_6 : decode cX11_isIn 6 = .ok (.if_icmp .ge 7, 3) := by decide +kernel
theorem dX11_isIn_9 : decode cX11_isIn 9 = .ok (.iconst 1, 1) := by decide +kernel
theorem dX11_isIn_10 : decode cX11_isIn 10 = .ok (.goto 4, 3) := by decide +kernel
theorem dX11_isIn_13 : decode cX11_isIn 13 = .ok (.iconst 0, 1) := by decide +kernel
theorem dX11_isIn_14 : decode cX11_isIn 14 = .ok (.ireturn, 1) := by decide +kernel
theorem dX11_isDays_0 : decode cX11_isDays 0 = .ok (.iload_n 0, 1) := by decide +kernel
theorem dX11_isDays_1 : decode cX11_isDays 1 = .ok (.iconst 1, 1) := by decide +kernel
theorem dX11_isDays_2 : decode cX11_isDays 2 = .ok (.if_icmp .lt 13, 3) := by decide +kernel
theorem dX11_isDays_5 : decode cX11_isDays 5 = .ok (.iload_n 0, 1) := by decide +kernel
theorem dX11_isDays_6 : decode cX11_isDays 6 = .ok (.bipush 99, 2) := by decide +kernel
theorem dX11_isDays_8 : decode cX11_isDays 8 = .ok (.if_icmp .gt 7, 3) := by decide +kernel
theorem dX11_isDays_11 : decode cX11_isDays 11 = .ok (.iconst 1, 1) := by decide +kernel
theorem dX11_isDays_12 : decode cX11_isDays 12 = .ok (.goto 4, 3) := by decide +kernel
theorem dX11_isDays_15 : decode cX11_isDays 15 = .ok (.iconst 0, 1) := by decide +kernel
theorem dX11_isDays_16 : decode cX11_isDays 16 = .ok (.ireturn, 1) := by decide +kernel
theorem dX11_isBasket_0 : decode cX11_isBasket 0 = .ok (.iload_n 0, 1) := by decide +kernel
theorem dX11_isBasket_1 : decode cX11_isBasket 1 = .ok (.iconst 4, 1) := by decide +kernel
theorem dX11_isBasket_2 : decode cX11_isBasket 2 = .ok (.invokestatic 307, 3) := by decide +kernel
theorem dX11_isBasket_5 : decode cX11_isBasket 5 = .ok (.ireturn, 1) := by decide +kernel
theorem dX11_isPerson_0 : decode cX11_isPerson 0 = .ok (.iload_n 1, 1) := by decide +kernel
theorem dX11_isPerson_1 : decode cX11_isPerson 1 = .ok (.aload_n 0, 1) := by decide +kernel
theorem dX11_isPerson_2 : decode cX11_isPerson 2 = .ok (.getfield 32, 3) := by decide +kernel
theorem dX11_isPerson_5 : decode cX11_isPerson 5 = .ok (.invokevirtual 96, 3) := by decide +kernel
theorem dX11_isPerson_8 : decode cX11_isPerson 8 = .ok (.invokestatic 307, 3) := by decide +kernel
theorem dX11_isPerson_11 : decode cX11_isPerson 11 = .ok (.ireturn, 1) := by decide +kernel
theorem dX11_isBoat_0 : decode cX11_isBoat 0 = .ok (.iload_n 1, 1) := by decide +kernel
theorem dX11_isBoat_1 : decode cX11_isBoat 1 = .ok (.aload_n 0, 1) := by decide +kernel
theorem dX11_isBoat_2 : decode cX11_isBoat 2 = .ok (.getfield 32, 3) := by decide +kernel
theorem dX11_isBoat_5 : decode cX11_isBoat 5 = .ok (.invokevirtual 235, 3) := by decide +kernel
theorem dX11_isBoat_8 : decode cX11_isBoat 8 = .ok (.invokestatic 307, 3) := by decide +kernel
theorem dX11_isBoat_11 : decode cX11_isBoat 11 = .ok (.ireturn, 1) := by decide +kernel
theorem dX11_isSlot_0 : decode cX11_isSlot 0 = .ok (.iload_n 1, 1) := by decide +kernel
theorem dX11_isSlot_1 : decode cX11_isSlot 1 = .ok (.aload_n 0, 1) := by decide +kernel
theorem dX11_isSlot_2 : decode cX11_isSlot 2 = .ok (.getfield 48, 3) := by decide +kernel
theorem dX11_isSlot_5 : decode cX11_isSlot 5 = .ok (.arraylength, 1) := by decide +kernel
theorem dX11_isSlot_6 : decode cX11_isSlot 6 = .ok (.invokestatic 307, 3) := by decide +kernel
theorem dX11_isSlot_9 : decode cX11_isSlot 9 = .ok (.ifCond .eq 19, 3) := by decide +kernel
theorem dX11_isSlot_12 : decode cX11_isSlot 12 = .ok (.iload_n 1, 1) := by decide +kernel
theorem dX11_isSlot_13 : decode cX11_isSlot 13 = .ok (.aload_n 0, 1) := by decide +kernel
theorem dX11_isSlot_14 : decode cX11_isSlot 14 = .ok (.getfield 52, 3) := by decide +kernel
theorem dX11_isSlot_17 : decode cX11_isSlot 17 = .ok (.arraylength, 1) := by decide +kernel
theorem dX11_isSlot_18 : decode cX11_isSlot 18 = .ok (.invokestatic 307, 3) := by decide +kernel
theorem dX11_isSlot_21 : decode cX11_isSlot 21 = .ok (.ifCond .eq 7, 3) := by decide +kernel
theorem dX11_isSlot_24 : decode cX11_isSlot 24 = .ok (.iconst 1, 1) := by decide +kernel
theorem dX11_isSlot_25 : decode cX11_isSlot 25 = .ok (.goto 4, 3) := by decide +kernel
theorem dX11_isSlot_28 : decode cX11_isSlot 28 = .ok (.iconst 0, 1) := by decide +kernel
theorem dX11_isSlot_29 : decode cX11_isSlot 29 = .ok (.ireturn, 1) := by decide +kernel
theorem dX11_refusalToLay_0 : decode cX11_refusalToLay 0 = .ok (.aload_n 0, 1) := by decide +kernel
theorem dX11_refusalToLay_1 : decode cX11_refusalToLay 1 = .ok (.iload_n 1, 1) := by decide +kernel
theorem dX11_refusalToLay_2 : decode cX11_refusalToLay 2 = .ok (.invokevirtual 136, 3) := by decide +kernel
theorem dX11_refusalToLay_5 : decode cX11_refusalToLay 5 = .ok (.ifCond .eq 18, 3) := by decide +kernel
theorem dX11_refusalToLay_8 : decode cX11_refusalToLay 8 = .ok (.aload_n 0, 1) := by decide +kernel
theorem dX11_refusalToLay_9 : decode cX11_refusalToLay 9 = .ok (.iload_n 2, 1) := by decide +kernel
theorem dX11_refusalToLay_10 : decode cX11_refusalToLay 10 = .ok (.invokevirtual 136, 3) := by decide +kernel
theorem dX11_refusalToLay_13 : decode cX11_refusalToLay 13 = .ok (.ifCond .eq 10, 3) := by decide +kernel
theorem dX11_refusalToLay_16 : decode cX11_refusalToLay 16 = .ok (.iload_n 3, 1) := by decide +kernel
theorem dX11_refusalToLay_17 : decode cX11_refusalToLay 17 = .ok (.invokestatic 155, 3) := by decide +kernel
theorem dX11_refusalToLay_20 : decode cX11_refusalToLay 20 = .ok (.ifCond .ne 5, 3) := by decide +kernel
theorem dX11_refusalToLay_23 : decode cX11_refusalToLay 23 = .ok (.iconst (-1), 1) := by decide +kernel
theorem dX11_refusalToLay_24 : decode cX11_refusalToLay 24 = .ok (.ireturn, 1) := by decide +kernel
theorem dX11_refusalToLay_25 : decode cX11_refusalToLay 25 = .ok (.aload_n 0, 1) := by decide +kernel
theorem dX11_refusalToLay_26 : decode cX11_refusalToLay 26 = .ok (.getfield 37, 3) := by decide +kernel
theorem dX11_refusalToLay_29 : decode cX11_refusalToLay 29 = .ok (.getfield 108, 3) := by decide +kernel
theorem dX11_refusalToLay_32 : decode cX11_refusalToLay 32 = .ok (.iload_n 1, 1) := by decide +kernel
theorem dX11_refusalToLay_33 : decode cX11_refusalToLay 33 = .ok (.invokevirtual 139, 3) := by decide +kernel
theorem dX11_refusalToLay_36 : decode cX11_refusalToLay 36 = .ok (.ifCond .eq 6, 3) := by decide +kernel
theorem dX11_refusalToLay_39 : decode cX11_refusalToLay 39 = .ok (.bipush (-3), 2) := by decide +kernel
theorem dX11_refusalToLay_41 : decode cX11_refusalToLay 41 = .ok (.ireturn, 1) := by decide +kernel
theorem dX11_refusalToLay_42 : decode cX11_refusalToLay 42 = .ok (.aload_n 0, 1) := by decide +kernel
theorem dX11_refusalToLay_43 : decode cX11_refusalToLay 43 = .ok (.getfield 37, 3) := by decide +kernel
theorem dX11_refusalToLay_46 : decode cX11_refusalToLay 46 = .ok (.getfield 158, 3) := by decide +kernel
theorem dX11_refusalToLay_49 : decode cX11_refusalToLay 49 = .ok (.iload_n 1, 1) := by decide +kernel
theorem dX11_refusalToLay_50 : decode cX11_refusalToLay 50 = .ok (.iload_n 2, 1) := by decide +kernel
theorem dX11_refusalToLay_51 : decode cX11_refusalToLay 51 = .ok (.invokevirtual 384, 3) := by decide +kernel
theorem dX11_refusalToLay_54 : decode cX11_refusalToLay 54 = .ok (.ifCond .ne 6, 3) := by decide +kernel
theorem dX11_refusalToLay_57 : decode cX11_refusalToLay 57 = .ok (.bipush (-4), 2) := by decide +kernel
theorem dX11_refusalToLay_59 : decode cX11_refusalToLay 59 = .ok (.ireturn, 1) := by decide +kernel
theorem dX11_refusalToLay_60 : decode cX11_refusalToLay 60 = .ok (.aload_n 0, 1) := by decide +kernel
theorem dX11_refusalToLay_61 : decode cX11_refusalToLay 61 = .ok (.getfield 24, 3) := by decide +kernel
theorem dX11_refusalToLay_64 : decode cX11_refusalToLay 64 = .ok (.invokevirtual 148, 3) := by decide +kernel
theorem dX11_refusalToLay_67 : decode cX11_refusalToLay 67 = .ok (.ifCond .eq 14, 3) := by decide +kernel
theorem dX11_refusalToLay_70 : decode cX11_refusalToLay 70 = .ok (.iload_n 3, 1) := by decide +kernel
theorem dX11_refusalToLay_71 : decode cX11_refusalToLay 71 = .ok (.aload_n 0, 1) := by decide +kernel
theorem dX11_refusalToLay_72 : decode cX11_refusalToLay 72 = .ok (.getfield 37, 3) := by decide +kernel
theorem dX11_refusalToLay_75 : decode cX11_refusalToLay 75 = .ok (.getfield 250, 3) := by decide +kernel
theorem dX11_refusalToLay_78 : decode cX11_refusalToLay 78 = .ok (.if_icmp .lt 6, 3) := by decide +kernel
theorem dX11_refusalToLay_81 : decode cX11_refusalToLay 81 = .ok (.bipush (-5), 2) := by decide +kernel
theorem dX11_refusalToLay_83 : decode cX11_refusalToLay 83 = .ok (.ireturn, 1) := by decide +kernel
theorem dX11_refusalToLay_84 : decode cX11_refusalToLay 84 = .ok (.iconst 0, 1) := by decide +kernel
theorem dX11_refusalToLay_85 : decode cX11_refusalToLay 85 = .ok (.ireturn, 1) := by decide +kernel
theorem dX11_copyRow_0 : decode cX11_copyRow 0 = .ok (.aload_n 0, 1) := by decide +kernel
theorem dX11_copyRow_1 : decode cX11_copyRow 1 = .ok (.iconst 0, 1) := by decide +kernel
theorem dX11_copyRow_2 : decode cX11_copyRow 2 = .ok (.aload_n 1, 1) := by decide +kernel
theorem dX11_copyRow_3 : decode cX11_copyRow 3 = .ok (.iconst 0, 1) := by decide +kernel
theorem dX11_copyRow_4 : decode cX11_copyRow 4 = .ok (.aload_n 0, 1) := by decide +kernel
theorem dX11_copyRow_5 : decode cX11_copyRow 5 = .ok (.arraylength, 1) := by decide +kernel
theorem dX11_copyRow_6 : decode cX11_copyRow 6 = .ok (.aload_n 1, 1) := by decide +kernel
theorem dX11_copyRow_7 : decode cX11_copyRow 7 = .ok (.arraylength, 1) := by decide +kernel
theorem dX11_copyRow_8 : decode cX11_copyRow 8 = .ok (.invokestatic 387, 3) := by decide +kernel
theorem dX11_copyRow_11 : decode cX11_copyRow 11 = .ok (.invokestatic 390, 3) := by decide +kernel
theorem dX11_copyRow_14 : decode cX11_copyRow 14 = .ok (.return_, 1) := by decide +kernel
theorem dX11_fillRow_0 : decode cX11_fillRow 0 = .ok (.iconst 0, 1) := by decide +kernel
theorem dX11_fillRow_1 : decode cX11_fillRow 1 = .ok (.istore_n 2, 1) := by decide +kernel
theorem dX11_fillRow_2 : decode cX11_fillRow 2 = .ok (.iload_n 2, 1) := by decide +kernel
theorem dX11_fillRow_3 : decode cX11_fillRow 3 = .ok (.aload_n 0, 1) := by decide +kernel
theorem dX11_fillRow_4 : decode cX11_fillRow 4 = .ok (.arraylength, 1) := by decide +kernel
theorem dX11_fillRow_5 : decode cX11_fillRow 5 = .ok (.if_icmp .ge 13, 3) := by decide +kernel
theorem dX11_fillRow_8 : decode cX11_fillRow 8 = .ok (.aload_n 0, 1) := by decide +kernel
theorem dX11_fillRow_9 : decode cX11_fillRow 9 = .ok (.iload_n 2, 1) := by decide +kernel
theorem dX11_fillRow_10 : decode cX11_fillRow 10 = .ok (.iload_n 1, 1) := by decide +kernel
theorem dX11_fillRow_11 : decode cX11_fillRow 11 = .ok (.iastore, 1) := by decide +kernel
theorem dX11_fillRow_12 : decode cX11_fillRow 12 = .ok (.iinc 2 1, 3) := by decide +kernel
theorem dX11_fillRow_15 : decode cX11_fillRow 15 = .ok (.goto (-13), 3) := by decide +kernel
theorem dX11_fillRow_18 : decode cX11_fillRow 18 = .ok (.return_, 1) := by decide +kernel
theorem dX11_cell_0 : decode cX11_cell 0 = .ok (.iload_n 1, 1) := by decide +kernel
theorem dX11_cell_1 : decode cX11_cell 1 = .ok (.ifCond .lt 15, 3) := by decide +kernel
theorem dX11_cell_4 : decode cX11_cell 4 = .ok (.iload_n 1, 1) := by decide +kernel
theorem dX11_cell_5 : decode cX11_cell 5 = .ok (.aload_n 0, 1) := by decide +kernel
theorem dX11_cell_6 : decode cX11_cell 6 = .ok (.arraylength, 1) := by decide +kernel
theorem dX11_cell_7 : decode cX11_cell 7 = .ok (.if_icmp .ge 9, 3) := by decide +kernel
theorem dX11_cell_10 : decode cX11_cell 10 = .ok (.aload_n 0, 1) := by decide +kernel
theorem dX11_cell_11 : decode cX11_cell 11 = .ok (.iload_n 1, 1) := by decide +kernel
theorem dX11_cell_12 : decode cX11_cell 12 = .ok (.iaload, 1) := by decide +kernel
theorem dX11_cell_13 : decode cX11_cell 13 = .ok (.goto 4, 3) := by decide +kernel
theorem dX11_cell_16 : decode cX11_cell 16 = .ok (.iload_n 2, 1) := by decide +kernel
theorem dX11_cell_17 : decode cX11_cell 17 = .ok (.ireturn, 1) := by decide +kernel
theorem dX11_setCell_0 : decode cX11_setCell 0 = .ok (.iload_n 1, 1) := by decide +kernel
theorem dX11_setCell_1 : decode cX11_setCell 1 = .ok (.ifCond .lt 13, 3) := by decide +kernel
theorem dX11_setCell_4 : decode cX11_setCell 4 = .ok (.iload_n 1, 1) := by decide +kernel
theorem dX11_setCell_5 : decode cX11_setCell 5 = .ok (.aload_n 0, 1) := by decide +kernel
theorem dX11_setCell_6 : decode cX11_setCell 6 = .ok (.arraylength, 1) := by decide +kernel
theorem dX11_setCell_7 : decode cX11_setCell 7 = .ok (.if_icmp .ge 7, 3) := by decide +kernel
theorem dX11_setCell_10 : decode cX11_setCell 10 = .ok (.aload_n 0, 1) := by decide +kernel
theorem dX11_setCell_11 : decode cX11_setCell 11 = .ok (.iload_n 1, 1) := by decide +kernel
theorem dX11_setCell_12 : decode cX11_setCell 12 = .ok (.iload_n 2, 1) := by decide +kernel
theorem dX11_setCell_13 : decode cX11_setCell 13 = .ok (.iastore, 1) := by decide +kernel
theorem dX11_setCell_14 : decode cX11_setCell 14 = .ok (.return_, 1) := by decide +kernel
theorem dJ5_init_d00df_0 : decode cJ5_init_d00df 0 = .ok (.aload_n 0, 1) := by decide +kernel
theorem dJ5_init_d00df_1 : decode cJ5_init_d00df 1 = .ok (.invokespecial 3, 3) := by decide +kernel
theorem dJ5_init_d00df_4 : decode cJ5_init_d00df 4 = .ok (.getstatic 18, 3) := by decide +kernel
theorem dJ5_init_d00df_7 : decode cJ5_init_d00df 7 = .ok (.ifCond .eq 18, 3) := by decide +kernel
theorem dJ5_init_d00df_10 : decode cJ5_init_d00df 10 = .ok (.aload_n 0, 1) := by decide +kernel
theorem dJ5_init_d00df_11 : decode cJ5_init_d00df 11 = .ok (.iload_n 1, 1) := by decide +kernel
theorem dJ5_init_d00df_12 : decode cJ5_init_d00df 12 = .ok (.newarray .byte, 2) := by decide +kernel
theorem dJ5_init_d00df_14 : decode cJ5_init_d00df 14 = .ok (.putfield 15, 3) := by decide +kernel
theorem dJ5_init_d00df_17 : decode cJ5_init_d00df 17 = .ok (.aload_n 0, 1) := by decide +kernel
theorem dJ5_init_d00df_18 : decode cJ5_init_d00df 18 = .ok (.iconst 0, 1) := by decide +kernel
theorem dJ5_init_d00df_19 : decode cJ5_init_d00df 19 = .ok (.putfield 22, 3) := by decide +kernel
theorem dJ5_init_d00df_22 : decode cJ5_init_d00df 22 = .ok (.goto 16, 3) := by decide +kernel
theorem dJ5_init_d00df_25 : decode cJ5_init_d00df 25 = .ok (.aload_n 0, 1) := by decide +kernel
theorem dJ5_init_d00df_26 : decode cJ5_init_d00df 26 = .ok (.iload_n 1, 1) := by decide +kernel
theorem dJ5_init_d00df_27 : decode cJ5_init_d00df 27 = .ok (.invokestatic 26, 3) := by decide +kernel
theorem dJ5_init_d00df_30 : decode cJ5_init_d00df 30 = .ok (.putfield 15, 3) := by decide +kernel
theorem dJ5_init_d00df_33 : decode cJ5_init_d00df 33 = .ok (.aload_n 0, 1) := by decide +kernel
theorem dJ5_init_d00df_34 : decode cJ5_init_d00df 34 = .ok (.iconst 1, 1) := by decide +kernel
theorem dJ5_init_d00df_35 : decode cJ5_init_d00df 35 = .ok (.putfield 22, 3) := by decide +kernel
theorem dJ5_init_d00df_38 : decode cJ5_init_d00df 38 = .ok (.return_, 1) := by decide +kernel
theorem dJ5_init_a7421_0 : decode cJ5_init_a7421 0 = .ok (.aload_n 0, 1) := by decide +kernel
theorem dJ5_init_a7421_1 : decode cJ5_init_a7421 1 = .ok (.invokespecial 3, 3) := by decide +kernel
theorem dJ5_init_a7421_4 : decode cJ5_init_a7421 4 = .ok (.aload_n 1, 1) := by decide +kernel
theorem dJ5_init_a7421_5 : decode cJ5_init_a7421 5 = .ok (.invokevirtual 32, 3) := by decide +kernel
theorem dJ5_init_a7421_8 : decode cJ5_init_a7421 8 = .ok (.istore_n 2, 1) := by decide +kernel
theorem dJ5_init_a7421_9 : decode cJ5_init_a7421 9 = .ok (.iload_n 2, 1) := by decide +kernel
theorem dJ5_init_a7421_10 : decode cJ5_init_a7421 10 = .ok (.ldc 38, 2) := by decide +kernel
theorem dJ5_init_a7421_12 : decode cJ5_init_a7421 12 = .ok (.if_icmp .ge 10, 3) := by decide +kernel
theorem dJ5_init_a7421_15 : decode cJ5_init_a7421 15 = .ok (.iload_n 2, 1) := by decide +kernel
theorem dJ5_init_a7421_16 : decode cJ5_init_a7421 16 = .ok (.bipush 16, 2) := by decide +kernel
theorem dJ5_init_a7421_18 : decode cJ5_init_a7421 18 = .ok (.iadd, 1) := by decide +kernel
theorem dJ5_init_a7421_19 : decode cJ5_init_a7421 19 = .ok (.goto 5, 3) := by decide +kernel
theorem dJ5_init_a7421_22 : decode cJ5_init_a7421 22 = .ok (.ldc 39, 2) := by decide +kernel
theorem dJ5_init_a7421_24 : decode cJ5_init_a7421 24 = .ok (.istore_n 3, 1) := by decide +kernel
theorem dJ5_init_a7421_25 : decode cJ5_init_a7421 25 = .ok (.aload_n 1, 1) := by decide +kernel
theorem dJ5_init_a7421_26 : decode cJ5_init_a7421 26 = .ok (.invokevirtual 40, 3) := by decide +kernel
theorem dJ5_init_a7421_29 : decode cJ5_init_a7421 29 = .ok (.istore 4, 2) := by decide +kernel
theorem dJ5_init_a7421_31 : decode cJ5_init_a7421 31 = .ok (.aload_n 0, 1) := by decide +kernel
theorem dJ5_init_a7421_32 : decode cJ5_init_a7421 32 = .ok (.iload 4, 2) := by decide +kernel
theorem dJ5_init_a7421_34 : decode cJ5_init_a7421 34 = .ok (.putfield 22, 3) := by decide +kernel
theorem dJ5_init_a7421_37 : decode cJ5_init_a7421 37 = .ok (.aload_n 0, 1) := by decide +kernel
theorem dJ5_init_a7421_38 : decode cJ5_init_a7421 38 = .ok (.iload 4, 2) := by decide +kernel
theorem dJ5_init_a7421_40 : decode cJ5_init_a7421 40 = .ok (.ifCond .ne 9, 3) := by decide +kernel
theorem dJ5_init_a7421_43 : decode cJ5_init_a7421 43 = .ok (.iload_n 3, 1) := by decide +kernel
theorem dJ5_init_a7421_44 : decode cJ5_init_a7421 44 = .ok (.newarray .byte, 2) := by decide +kernel
theorem dJ5_init_a7421_46 : decode cJ5_init_a7421 46 = .ok (.goto 7, 3) := by decide +kernel
theorem dJ5_init_a7421_49 : decode cJ5_init_a7421 49 = .ok (.iload_n 3, 1) := by decide +kernel
theorem dJ5_init_a7421_50 : decode cJ5_init_a7421 50 = .ok (.invokestatic 26, 3) := by decide +kernel
theorem dJ5_init_a7421_53 : decode cJ5_init_a7421 53 = .ok (.putfield 15, 3) := by decide +kernel
theorem dJ5_init_a7421_56 : decode cJ5_init_a7421 56 = .ok (.aload_n 0, 1) := by decide +kernel
theorem dJ5_init_a7421_57 : decode cJ5_init_a7421 57 = .ok (.aload_n 1, 1) := by decide +kernel
theorem dJ5_init_a7421_58 : decode cJ5_init_a7421 58 = .ok (.invokevirtual 43, 3) := by decide +kernel
theorem dJ5_init_a7421_61 : decode cJ5_init_a7421 61 = .ok (.pop, 1) := by decide +kernel
theorem dJ5_init_a7421_62 : decode cJ5_init_a7421 62 = .ok (.return_, 1) := by decide +kernel
theorem dJ5_length_8abf5_0 : decode cJ5_length_8abf5 0 = .ok (.aload_n 0, 1) := by decide +kernel
theorem dJ5_length_8abf5_1 : decode cJ5_length_8abf5 1 = .ok (.getfield 79, 3) := by decide +kernel
theorem dJ5_length_8abf5_4 : decode cJ5_length_8abf5 4 = .ok (.ireturn, 1) := by decide +kernel
theorem dJ5_ensureCapacityInternal_d00df_0 : decode cJ5_ensureCapacityInternal_d00df 0 = .ok (.aload_n 0, 1) := by decide +kernel
theorem dJ5_ensureCapacityInternal_d00df_1 : decode cJ5_ensureCapacityInternal_d00df 1 = .ok (.getfield 15, 3) := by decide +kernel
theorem dJ5_ensureCapacityInternal_d00df_4 : decode cJ5_ensureCapacityInternal_d00df 4 = .ok (.arraylength, 1) := by decide +kernel
theorem dJ5_ensureCapacityInternal_d00df_5 : decode cJ5_ensureCapacityInternal_d00df 5 = .ok (.aload_n 0, 1) := by decide +kernel
theorem dJ5_ensureCapacityInternal_d00df_6 : decode cJ5_ensureCapacityInternal_d00df 6 = .ok (.getfield 22, 3) := by decide +kernel
theorem dJ5_ensureCapacityInternal_d00df_9 : decode cJ5_ensureCapacityInternal_d00df 9 = .ok (.ishr, 1) := by decide +kernel
theorem dJ5_ensureCapacityInternal_d00df_10 : decode cJ5_ensureCapacityInternal_d00df 10 = .ok (.istore_n 2, 1) := by decide +kernel
theorem dJ5_ensureCapacityInternal_d00df_11 : decode cJ5_ensureCapacityInternal_d00df 11 = .ok (.iload_n 1, 1) := by decide +kernel
theorem dJ5_ensureCapacityInternal_d00df_12 : decode cJ5_ensureCapacityInternal_d00df 12 = .ok (.iload_n 2, 1) := by decide +kernel
theorem dJ5_ensureCapacityInternal_d00df_13 : decode cJ5_ensureCapacityInternal_d00df 13 = .ok (.isub, 1) := by decide +kernel
theorem dJ5_ensureCapacityInternal_d00df_14 : decode cJ5_ensureCapacityInternal_d00df 14 = .ok (.ifCond .le 24, 3) := by decide +kernel
theorem dJ5_ensureCapacityInternal_d00df_17 : decode cJ5_ensureCapacityInternal_d00df 17 = .ok (.aload_n 0, 1) := by decide +kernel
theorem dJ5_ensureCapacityInternal_d00df_18 : decode cJ5_ensureCapacityInternal_d00df 18 = .ok (.aload_n 0, 1) := by decide +kernel
theorem dJ5_ensureCapacityInternal_d00df_19 : decode cJ5_ensureCapacityInternal_d00df 19 = .ok (.getfield 15, 3) := by decide +kernel
theorem dJ5_ensureCapacityInternal_d00df_22 : decode cJ5_ensureCapacityInternal_d00df 22 = .ok (.aload_n 0, 1) := by decide +kernel
theorem dJ5_ensureCapacityInternal_d00df_23 : decode cJ5_ensureCapacityInternal_d00df 23 = .ok (.iload_n 1, 1) := by decide +kernel
theorem dJ5_ensureCapacityInternal_d00df_24 : decode cJ5_ensureCapacityInternal_d00df 24 = .ok (.invokevirtual 104, 3) := by decide +kernel
theorem dJ5_ensureCapacityInternal_d00df_27 : decode cJ5_ensureCapacityInternal_d00df 27 = .ok (.aload_n 0, 1) := by decide +kernel
theorem dJ5_ensureCapacityInternal_d00df_28 : decode cJ5_ensureCapacityInternal_d00df 28 = .ok (.getfield 22, 3) := by decide +kernel
theorem dJ5_ensureCapacityInternal_d00df_31 : decode cJ5_ensureCapacityInternal_d00df 31 = .ok (.ishl, 1) := by decide +kernel
theorem dJ5_ensureCapacityInternal_d00df_32 : decode cJ5_ensureCapacityInternal_d00df 32 = .ok (.invokestatic 108, 3) := by decide +kernel
theorem dJ5_ensureCapacityInternal_d00df_35 : decode cJ5_ensureCapacityInternal_d00df 35 = .ok (.putfield 15, 3) := by decide +kernel
theorem dJ5_ensureCapacityInternal_d00df_38 : decode cJ5_ensureCapacityInternal_d00df 38 = .ok (.return_, 1) := by decide +kernel
theorem dJ5_newCapacity_0f7a4_0 : decode cJ5_newCapacity_0f7a4 0 = .ok (.aload_n 0, 1) := by decide +kernel
theorem dJ5_newCapacity_0f7a4_1 : decode cJ5_newCapacity_0f7a4 1 = .ok (.getfield 15, 3) := by decide +kernel
theorem dJ5_newCapacity_0f7a4_4 : decode cJ5_newCapacity_0f7a4 4 = .ok (.arraylength, 1) := by decide +kernel
theorem dJ5_newCapacity_0f7a4_5 : decode cJ5_newCapacity_0f7a4 5 = .ok (.istore_n 2, 1) := by decide +kernel
theorem dJ5_newCapacity_0f7a4_6 : decode cJ5_newCapacity_0f7a4 6 = .ok (.iload_n 1, 1) := by decide +kernel
theorem dJ5_newCapacity_0f7a4_7 : decode cJ5_newCapacity_0f7a4 7 = .ok (.aload_n 0, 1) := by decide +kernel
theorem dJ5_newCapacity_0f7a4_8 : decode cJ5_newCapacity_0f7a4 8 = .ok (.getfield 22, 3) := by decide +kernel
theorem dJ5_newCapacity_0f7a4_11 : decode cJ5_newCapacity_0f7a4 11 = .ok (.ishl, 1) := by decide +kernel
theorem dJ5_newCapacity_0f7a4_12 : decode cJ5_newCapacity_0f7a4 12 = .ok (.istore_n 3, 1) := by decide +kernel
theorem dJ5_newCapacity_0f7a4_13 : decode cJ5_newCapacity_0f7a4 13 = .ok (.iload_n 3, 1) := by decide +kernel
theorem dJ5_newCapacity_0f7a4_14 : decode cJ5_newCapacity_0f7a4 14 = .ok (.iload_n 2, 1) := by decide +kernel
theorem dJ5_newCapacity_0f7a4_15 : decode cJ5_newCapacity_0f7a4 15 = .ok (.isub, 1) := by decide +kernel
theorem dJ5_newCapacity_0f7a4_16 : decode cJ5_newCapacity_0f7a4 16 = .ok (.istore 4, 2) := by decide +kernel
theorem dJ5_newCapacity_0f7a4_18 : decode cJ5_newCapacity_0f7a4 18 = .ok (.iload_n 2, 1) := by decide +kernel
theorem dJ5_newCapacity_0f7a4_19 : decode cJ5_newCapacity_0f7a4 19 = .ok (.iload 4, 2) := by decide +kernel
theorem dJ5_newCapacity_0f7a4_21 : decode cJ5_newCapacity_0f7a4 21 = .ok (.iload_n 2, 1) := by decide +kernel
theorem dJ5_newCapacity_0f7a4_22 : decode cJ5_newCapacity_0f7a4 22 = .ok (.iconst 2, 1) := by decide +kernel
theorem dJ5_newCapacity_0f7a4_23 : decode cJ5_newCapacity_0f7a4 23 = .ok (.aload_n 0, 1) := by decide +kernel
theorem dJ5_newCapacity_0f7a4_24 : decode cJ5_newCapacity_0f7a4 24 = .ok (.getfield 22, 3) := by decide +kernel
theorem dJ5_newCapacity_0f7a4_27 : decode cJ5_newCapacity_0f7a4 27 = .ok (.ishl, 1) := by decide +kernel
theorem dJ5_newCapacity_0f7a4_28 : decode cJ5_newCapacity_0f7a4 28 = .ok (.iadd, 1) := by decide +kernel
theorem dJ5_newCapacity_0f7a4_29 : decode cJ5_newCapacity_0f7a4 29 = .ok (.invokestatic 114, 3) := by decide +kernel
theorem dJ5_newCapacity_0f7a4_32 : decode cJ5_newCapacity_0f7a4 32 = .ok (.istore 5, 2) := by decide +kernel
theorem dJ5_newCapacity_0f7a4_34 : decode cJ5_newCapacity_0f7a4 34 = .ok (.iload 5, 2) := by decide +kernel
theorem dJ5_newCapacity_0f7a4_36 : decode cJ5_newCapacity_0f7a4 36 = .ok (.ldc 39, 2) := by decide +kernel
theorem dJ5_newCapacity_0f7a4_38 : decode cJ5_newCapacity_0f7a4 38 = .ok (.if_icmp .ne 13, 3) := by decide +kernel
theorem dJ5_newCapacity_0f7a4_41 : decode cJ5_newCapacity_0f7a4 41 = .ok (.new 120, 3) := by decide +kernel
theorem dJ5_newCapacity_0f7a4_44 : decode cJ5_newCapacity_0f7a4 44 = .ok (.dup, 1) := by decide +kernel
theorem dJ5_newCapacity_0f7a4_45 : decode cJ5_newCapacity_0f7a4 45 = .ok (.ldc 122, 2) := by decide +kernel
theorem dJ5_newCapacity_0f7a4_47 : decode cJ5_newCapacity_0f7a4 47 = .ok (.invokespecial 124, 3) := by decide +kernel
theorem dJ5_newCapacity_0f7a4_50 : decode cJ5_newCapacity_0f7a4 50 = .ok (.athrow, 1) := by decide +kernel
theorem dJ5_newCapacity_0f7a4_51 : decode cJ5_newCapacity_0f7a4 51 = .ok (.iload 5, 2) := by decide +kernel
theorem dJ5_newCapacity_0f7a4_53 : decode cJ5_newCapacity_0f7a4 53 = .ok (.aload_n 0, 1) := by decide +kernel
theorem dJ5_newCapacity_0f7a4_54 : decode cJ5_newCapacity_0f7a4 54 = .ok (.getfield 22, 3) := by decide +kernel
theorem dJ5_newCapacity_0f7a4_57 : decode cJ5_newCapacity_0f7a4 57 = .ok (.ishr, 1) := by decide +kernel
theorem dJ5_newCapacity_0f7a4_58 : decode cJ5_newCapacity_0f7a4 58 = .ok (.ireturn, 1) := by decide +kernel
theorem dJ5_inflate_da8c8_0 : decode cJ5_inflate_da8c8 0 = .ok (.aload_n 0, 1) := by decide +kernel
theorem dJ5_inflate_da8c8_1 : decode cJ5_inflate_da8c8 1 = .ok (.invokevirtual 83, 3) := by decide +kernel
theorem dJ5_inflate_da8c8_4 : decode cJ5_inflate_da8c8 4 = .ok (.ifCond .ne 4, 3) := by decide +kernel
theorem dJ5_inflate_da8c8_7 : decode cJ5_inflate_da8c8 7 = .ok (.return_, 1) := by decide +kernel
theorem dJ5_inflate_da8c8_8 : decode cJ5_inflate_da8c8 8 = .ok (.aload_n 0, 1) := by decide +kernel
theorem dJ5_inflate_da8c8_9 : decode cJ5_inflate_da8c8 9 = .ok (.getfield 15, 3) := by decide +kernel
theorem dJ5_inflate_da8c8_12 : decode cJ5_inflate_da8c8 12 = .ok (.arraylength, 1) := by decide +kernel
theorem dJ5_inflate_da8c8_13 : decode cJ5_inflate_da8c8 13 = .ok (.invokestatic 26, 3) := by decide +kernel
theorem dJ5_inflate_da8c8_16 : decode cJ5_inflate_da8c8 16 = .ok (.astore_n 1, 1) := by decide +kernel
theorem dJ5_inflate_da8c8_17 : decode cJ5_inflate_da8c8 17 = .ok (.aload_n 0, 1) := by decide +kernel
theorem dJ5_inflate_da8c8_18 : decode cJ5_inflate_da8c8 18 = .ok (.getfield 15, 3) := by decide +kernel
theorem dJ5_inflate_da8c8_21 : decode cJ5_inflate_da8c8 21 = .ok (.iconst 0, 1) := by decide +kernel
theorem dJ5_inflate_da8c8_22 : decode cJ5_inflate_da8c8 22 = .ok (.aload_n 1, 1) := by decide +kernel
theorem dJ5_inflate_da8c8_23 : decode cJ5_inflate_da8c8 23 = .ok (.iconst 0, 1) := by decide +kernel
theorem dJ5_inflate_da8c8_24 : decode cJ5_inflate_da8c8 24 = .ok (.aload_n 0, 1) := by decide +kernel
theorem dJ5_inflate_da8c8_25 : decode cJ5_inflate_da8c8 25 = .ok (.getfield 79, 3) := by decide +kernel
theorem dJ5_inflate_da8c8_28 : decode cJ5_inflate_da8c8 28 = .ok (.invokestatic 125, 3) := by decide +kernel
theorem dJ5_inflate_da8c8_31 : decode cJ5_inflate_da8c8 31 = .ok (.aload_n 0, 1) := by decide +kernel
theorem dJ5_inflate_da8c8_32 : decode cJ5_inflate_da8c8 32 = .ok (.aload_n 1, 1) := by decide +kernel
theorem dJ5_inflate_da8c8_33 : decode cJ5_inflate_da8c8 33 = .ok (.putfield 15, 3) := by decide +kernel
theorem dJ5_inflate_da8c8_36 : decode cJ5_inflate_da8c8 36 = .ok (.aload_n 0, 1) := by decide +kernel
theorem dJ5_inflate_da8c8_37 : decode cJ5_inflate_da8c8 37 = .ok (.iconst 1, 1) := by decide +kernel
theorem dJ5_inflate_da8c8_38 : decode cJ5_inflate_da8c8 38 = .ok (.putfield 22, 3) := by decide +kernel
theorem dJ5_inflate_da8c8_41 : decode cJ5_inflate_da8c8 41 = .ok (.return_, 1) := by decide +kernel
theorem dJ5_append_cf1ce_0 : decode cJ5_append_cf1ce 0 = .ok (.aload_n 1, 1) := by decide +kernel
theorem dJ5_append_cf1ce_1 : decode cJ5_append_cf1ce 1 = .ok (.ifnonnull 8, 3) := by decide +kernel
theorem dJ5_append_cf1ce_4 : decode cJ5_append_cf1ce 4 = .ok (.aload_n 0, 1) := by decide +kernel
theorem dJ5_append_cf1ce_5 : decode cJ5_append_cf1ce 5 = .ok (.invokevirtual 204, 3) := by decide +kernel
theorem dJ5_append_cf1ce_8 : decode cJ5_append_cf1ce 8 = .ok (.areturn, 1) := by decide +kernel
theorem dJ5_append_cf1ce_9 : decode cJ5_append_cf1ce 9 = .ok (.aload_n 1, 1) := by decide +kernel
theorem dJ5_append_cf1ce_10 : decode cJ5_append_cf1ce 10 = .ok (.invokevirtual 32, 3) := by decide +kernel
theorem dJ5_append_cf1ce_13 : decode cJ5_append_cf1ce 13 = .ok (.istore_n 2, 1) := by decide +kernel
theorem dJ5_append_cf1ce_14 : decode cJ5_append_cf1ce 14 = .ok (.aload_n 0, 1) := by decide +kernel
theorem dJ5_append_cf1ce_15 : decode cJ5_append_cf1ce 15 = .ok (.aload_n 0, 1) := by decide +kernel
theorem dJ5_append_cf1ce_16 : decode cJ5_append_cf1ce 16 = .ok (.getfield 79, 3) := by decide +kernel
theorem dJ5_append_cf1ce_19 : decode cJ5_append_cf1ce 19 = .ok (.iload_n 2, 1) := by decide +kernel
theorem dJ5_append_cf1ce_20 : decode cJ5_append_cf1ce 20 = .ok (.iadd, 1) := by decide +kernel
theorem dJ5_append_cf1ce_21 : decode cJ5_append_cf1ce 21 = .ok (.invokevirtual 100, 3) := by decide +kernel
theorem dJ5_append_cf1ce_24 : decode cJ5_append_cf1ce 24 = .ok (.aload_n 0, 1) := by decide +kernel
theorem dJ5_append_cf1ce_25 : decode cJ5_append_cf1ce 25 = .ok (.aload_n 0, 1) := by decide +kernel
theorem dJ5_append_cf1ce_26 : decode cJ5_append_cf1ce 26 = .ok (.getfield 79, 3) := by decide +kernel
theorem dJ5_append_cf1ce_29 : decode cJ5_append_cf1ce 29 = .ok (.aload_n 1, 1) := by decide +kernel
theorem dJ5_append_cf1ce_30 : decode cJ5_append_cf1ce 30 = .ok (.invokevirtual 208, 3) := by decide +kernel
theorem dJ5_append_cf1ce_33 : decode cJ5_append_cf1ce 33 = .ok (.aload_n 0, 1) := by decide +kernel
theorem dJ5_append_cf1ce_34 : decode cJ5_append_cf1ce 34 = .ok (.dup, 1) := by decide +kernel
theorem dJ5_append_cf1ce_35 : decode cJ5_append_cf1ce 35 = .ok (.getfield 79, 3) := by decide +kernel
theorem dJ5_append_cf1ce_38 : decode cJ5_append_cf1ce 38 = .ok (.iload_n 2, 1) := by decide +kernel
theorem dJ5_append_cf1ce_39 : decode cJ5_append_cf1ce 39 = .ok (.iadd, 1) := by decide +kernel
theorem dJ5_append_cf1ce_40 : decode cJ5_append_cf1ce 40 = .ok (.putfield 79, 3) := by decide +kernel
theorem dJ5_append_cf1ce_43 : decode cJ5_append_cf1ce 43 = .ok (.aload_n 0, 1) := by decide +kernel
theorem dJ5_append_cf1ce_44 : decode cJ5_append_cf1ce 44 = .ok (.areturn, 1) := by decide +kernel
theorem dJ5_appendNull_278bc_0 : decode cJ5_appendNull_278bc 0 = .ok (.aload_n 0, 1) := by decide +kernel
theorem dJ5_appendNull_278bc_1 : decode cJ5_appendNull_278bc 1 = .ok (.aload_n 0, 1) := by decide +kernel
theorem dJ5_appendNull_278bc_2 : decode cJ5_appendNull_278bc 2 = .ok (.getfield 79, 3) := by decide +kernel
theorem dJ5_appendNull_278bc_5 : decode cJ5_appendNull_278bc 5 = .ok (.iconst 4, 1) := by decide +kernel
theorem dJ5_appendNull_278bc_6 : decode cJ5_appendNull_278bc 6 = .ok (.iadd, 1) := by decide +kernel
theorem dJ5_appendNull_278bc_7 : decode cJ5_appendNull_278bc 7 = .ok (.invokevirtual 100, 3) := by decide +kernel
theorem dJ5_appendNull_278bc_10 : decode cJ5_appendNull_278bc 10 = .ok (.aload_n 0, 1) := by decide +kernel
theorem dJ5_appendNull_278bc_11 : decode cJ5_appendNull_278bc 11 = .ok (.getfield 79, 3) := by decide +kernel
theorem dJ5_appendNull_278bc_14 : decode cJ5_appendNull_278bc 14 = .ok (.istore_n 1, 1) := by decide +kernel
theorem dJ5_appendNull_278bc_15 : decode cJ5_appendNull_278bc 15 = .ok (.aload_n 0, 1) := by decide +kernel
theorem dJ5_appendNull_278bc_16 : decode cJ5_appendNull_278bc 16 = .ok (.getfield 15, 3) := by decide +kernel
theorem dJ5_appendNull_278bc_19 : decode cJ5_appendNull_278bc 19 = .ok (.astore_n 2, 1) := by decide +kernel
theorem dJ5_appendNull_278bc_20 : decode cJ5_appendNull_278bc 20 = .ok (.aload_n 0, 1) := by decide +kernel
theorem dJ5_appendNull_278bc_21 : decode cJ5_appendNull_278bc 21 = .ok (.invokevirtual 83, 3) := by decide +kernel
theorem dJ5_appendNull_278bc_24 : decode cJ5_appendNull_278bc 24 = .ok (.ifCond .eq 38, 3) := by decide +kernel
theorem dJ5_appendNull_278bc_27 : decode cJ5_appendNull_278bc 27 = .ok (.aload_n 2, 1) := by decide +kernel
theorem dJ5_appendNull_278bc_28 : decode cJ5_appendNull_278bc 28 = .ok (.iload_n 1, 1) := by decide +kernel
theorem dJ5_appendNull_278bc_29 : decode cJ5_appendNull_278bc 29 = .ok (.iinc 1 1, 3) := by decide +kernel
theorem dJ5_appendNull_278bc_32 : decode cJ5_appendNull_278bc 32 = .ok (.bipush 110, 2) := by decide +kernel
theorem dJ5_appendNull_278bc_34 : decode cJ5_appendNull_278bc 34 = .ok (.bastore, 1) := by decide +kernel
theorem dJ5_appendNull_278bc_35 : decode cJ5_appendNull_278bc 35 = .ok (.aload_n 2, 1) := by decide +kernel
theorem dJ5_appendNull_278bc_36 : decode cJ5_appendNull_278bc 36 = .ok (.iload_n 1, 1) := by decide +kernel
theorem dJ5_appendNull_278bc_37 : decode cJ5_appendNull_278bc 37 = .ok (.iinc 1 1, 3) := by decide +kernel
theorem dJ5_appendNull_278bc_40 : decode cJ5_appendNull_278bc 40 = .ok (.bipush 117, 2) := by decide +kernel
theorem dJ5_appendNull_278bc_42 : decode cJ5_appendNull_278bc 42 = .ok (.bastore, 1) := by decide +kernel
theorem dJ5_appendNull_278bc_43 : decode cJ5_appendNull_278bc 43 = .ok (.aload_n 2, 1) := by decide +kernel
theorem dJ5_appendNull_278bc_44 : decode cJ5_appendNull_278bc 44 = .ok (.iload_n 1, 1) := by decide +kernel
theorem dJ5_appendNull_278bc_45 : decode cJ5_appendNull_278bc 45 = .ok (.iinc 1 1, 3) := by decide +kernel
theorem dJ5_appendNull_278bc_48 : decode cJ5_appendNull_278bc 48 = .ok (.bipush 108, 2) := by decide +kernel
theorem dJ5_appendNull_278bc_50 : decode cJ5_appendNull_278bc 50 = .ok (.bastore, 1) := by decide +kernel
theorem dJ5_appendNull_278bc_51 : decode cJ5_appendNull_278bc 51 = .ok (.aload_n 2, 1) := by decide +kernel
theorem dJ5_appendNull_278bc_52 : decode cJ5_appendNull_278bc 52 = .ok (.iload_n 1, 1) := by decide +kernel
theorem dJ5_appendNull_278bc_53 : decode cJ5_appendNull_278bc 53 = .ok (.iinc 1 1, 3) := by decide +kernel
theorem dJ5_appendNull_278bc_56 : decode cJ5_appendNull_278bc 56 = .ok (.bipush 108, 2) := by decide +kernel
theorem dJ5_appendNull_278bc_58 : decode cJ5_appendNull_278bc 58 = .ok (.bastore, 1) := by decide +kernel
theorem dJ5_appendNull_278bc_59 : decode cJ5_appendNull_278bc 59 = .ok (.goto 17, 3) := by decide +kernel
theorem dJ5_appendNull_278bc_62 : decode cJ5_appendNull_278bc 62 = .ok (.aload_n 2, 1) := by decide +kernel
theorem dJ5_appendNull_278bc_63 : decode cJ5_appendNull_278bc 63 = .ok (.iload_n 1, 1) := by decide +kernel
theorem dJ5_appendNull_278bc_64 : decode cJ5_appendNull_278bc 64 = .ok (.bipush 110, 2) := by decide +kernel
theorem dJ5_appendNull_278bc_66 : decode cJ5_appendNull_278bc 66 = .ok (.bipush 117, 2) := by decide +kernel
theorem dJ5_appendNull_278bc_68 : decode cJ5_appendNull_278bc 68 = .ok (.bipush 108, 2) := by decide +kernel
theorem dJ5_appendNull_278bc_70 : decode cJ5_appendNull_278bc 70 = .ok (.bipush 108, 2) := by decide +kernel
theorem dJ5_appendNull_278bc_72 : decode cJ5_appendNull_278bc 72 = .ok (.invokestatic 226, 3) := by decide +kernel
theorem dJ5_appendNull_278bc_75 : decode cJ5_appendNull_278bc 75 = .ok (.istore_n 1, 1) := by decide +kernel
theorem dJ5_appendNull_278bc_76 : decode cJ5_appendNull_278bc 76 = .ok (.aload_n 0, 1) := by decide +kernel
theorem dJ5_appendNull_278bc_77 : decode cJ5_appendNull_278bc 77 = .ok (.iload_n 1, 1) := by decide +kernel
theorem dJ5_appendNull_278bc_78 : decode cJ5_appendNull_278bc 78 = .ok (.putfield 79, 3) := by decide +kernel
theorem dJ5_appendNull_278bc_81 : decode cJ5_appendNull_278bc 81 = .ok (.aload_n 0, 1) := by decide +kernel
theorem dJ5_appendNull_278bc_82 : decode cJ5_appendNull_278bc 82 = .ok (.areturn, 1) := by decide +kernel
theorem dJ5_append_3fe6f_0 : decode cJ5_append_3fe6f 0 = .ok (.aload_n 0, 1) := by decide +kernel
theorem dJ5_append_3fe6f_1 : decode cJ5_append_3fe6f 1 = .ok (.aload_n 0, 1) := by decide +kernel
theorem dJ5_append_3fe6f_2 : decode cJ5_append_3fe6f 2 = .ok (.getfield 79, 3) := by decide +kernel
theorem dJ5_append_3fe6f_5 : decode cJ5_append_3fe6f 5 = .ok (.iconst 1, 1) := by decide +kernel
theorem dJ5_append_3fe6f_6 : decode cJ5_append_3fe6f 6 = .ok (.iadd, 1) := by decide +kernel
theorem dJ5_append_3fe6f_7 : decode cJ5_append_3fe6f 7 = .ok (.invokevirtual 100, 3) := by decide +kernel
theorem dJ5_append_3fe6f_10 : decode cJ5_append_3fe6f 10 = .ok (.aload_n 0, 1) := by decide +kernel
theorem dJ5_append_3fe6f_11 : decode cJ5_append_3fe6f 11 = .ok (.invokevirtual 83, 3) := by decide +kernel
theorem dJ5_append_3fe6f_14 : decode cJ5_append_3fe6f 14 = .ok (.ifCond .eq 31, 3) := by decide +kernel
theorem dJ5_append_3fe6f_17 : decode cJ5_append_3fe6f 17 = .ok (.iload_n 1, 1) := by decide +kernel
theorem dJ5_append_3fe6f_18 : decode cJ5_append_3fe6f 18 = .ok (.invokestatic 191, 3) := by decide +kernel
theorem dJ5_append_3fe6f_21 : decode cJ5_append_3fe6f 21 = .ok (.ifCond .eq 24, 3) := by decide +kernel
theorem dJ5_append_3fe6f_24 : decode cJ5_append_3fe6f 24 = .ok (.aload_n 0, 1) := by decide +kernel
theorem dJ5_append_3fe6f_25 : decode cJ5_append_3fe6f 25 = .ok (.getfield 15, 3) := by decide +kernel
theorem dJ5_append_3fe6f_28 : decode cJ5_append_3fe6f 28 = .ok (.aload_n 0, 1) := by decide +kernel
theorem dJ5_append_3fe6f_29 : decode cJ5_append_3fe6f 29 = .ok (.dup, 1) := by decide +kernel
theorem dJ5_append_3fe6f_30 : decode cJ5_append_3fe6f 30 = .ok (.getfield 79, 3) := by decide +kernel
theorem dJ5_append_3fe6f_33 : decode cJ5_append_3fe6f 33 = .ok (.dup_x1, 1) := by decide +kernel
theorem dJ5_append_3fe6f_34 : decode cJ5_append_3fe6f 34 = .ok (.iconst 1, 1) := by decide +kernel
theorem dJ5_append_3fe6f_35 : decode cJ5_append_3fe6f 35 = .ok (.iadd, 1) := by decide +kernel
theorem dJ5_append_3fe6f_36 : decode cJ5_append_3fe6f 36 = .ok (.putfield 79, 3) := by decide +kernel
theorem dJ5_append_3fe6f_39 : decode cJ5_append_3fe6f 39 = .ok (.iload_n 1, 1) := by decide +kernel
theorem dJ5_append_3fe6f_40 : decode cJ5_append_3fe6f 40 = .ok (.i2b, 1) := by decide +kernel
theorem dJ5_append_3fe6f_41 : decode cJ5_append_3fe6f 41 = .ok (.bastore, 1) := by decide +kernel
theorem dJ5_append_3fe6f_42 : decode cJ5_append_3fe6f 42 = .ok (.goto 33, 3) := by decide +kernel
theorem dJ5_append_3fe6f_45 : decode cJ5_append_3fe6f 45 = .ok (.aload_n 0, 1) := by decide +kernel
theorem dJ5_append_3fe6f_46 : decode cJ5_append_3fe6f 46 = .ok (.invokevirtual 83, 3) := by decide +kernel
theorem dJ5_append_3fe6f_49 : decode cJ5_append_3fe6f 49 = .ok (.ifCond .eq 7, 3) := by decide +kernel
theorem dJ5_append_3fe6f_52 : decode cJ5_append_3fe6f 52 = .ok (.aload_n 0, 1) := by decide +kernel
theorem dJ5_append_3fe6f_53 : decode cJ5_append_3fe6f 53 = .ok (.invokevirtual 195, 3) := by decide +kernel
theorem dJ5_append_3fe6f_56 : decode cJ5_append_3fe6f 56 = .ok (.aload_n 0, 1) := by decide +kernel
theorem dJ5_append_3fe6f_57 : decode cJ5_append_3fe6f 57 = .ok (.getfield 15, 3) := by decide +kernel
theorem dJ5_append_3fe6f_60 : decode cJ5_append_3fe6f 60 = .ok (.aload_n 0, 1) := by decide +kernel
theorem dJ5_append_3fe6f_61 : decode cJ5_append_3fe6f 61 = .ok (.dup, 1) := by decide +kernel
theorem dJ5_append_3fe6f_62 : decode cJ5_append_3fe6f 62 = .ok (.getfield 79, 3) := by decide +kernel
theorem dJ5_append_3fe6f_65 : decode cJ5_append_3fe6f 65 = .ok (.dup_x1, 1) := by decide +kernel
theorem dJ5_append_3fe6f_66 : decode cJ5_append_3fe6f 66 = .ok (.iconst 1, 1) := by decide +kernel
theorem dJ5_append_3fe6f_67 : decode cJ5_append_3fe6f 67 = .ok (.iadd, 1) := by decide +kernel
theorem dJ5_append_3fe6f_68 : decode cJ5_append_3fe6f 68 = .ok (.putfield 79, 3) := by decide +kernel
theorem dJ5_append_3fe6f_71 : decode cJ5_append_3fe6f 71 = .ok (.iload_n 1, 1) := by decide +kernel
theorem dJ5_append_3fe6f_72 : decode cJ5_append_3fe6f 72 = .ok (.invokestatic 197, 3) := by decide +kernel
theorem dJ5_append_3fe6f_75 : decode cJ5_append_3fe6f 75 = .ok (.aload_n 0, 1) := by decide +kernel
theorem dJ5_append_3fe6f_76 : decode cJ5_append_3fe6f 76 = .ok (.areturn, 1) := by decide +kernel
theorem dJ5_append_c97b9_0 : decode cJ5_append_c97b9 0 = .ok (.aload_n 0, 1) := by decide +kernel
theorem dJ5_append_c97b9_1 : decode cJ5_append_c97b9 1 = .ok (.getfield 79, 3) := by decide +kernel
theorem dJ5_append_c97b9_4 : decode cJ5_append_c97b9 4 = .ok (.istore_n 2, 1) := by decide +kernel
theorem dJ5_append_c97b9_5 : decode cJ5_append_c97b9 5 = .ok (.iload_n 2, 1) := by decide +kernel
theorem dJ5_append_c97b9_6 : decode cJ5_append_c97b9 6 = .ok (.iload_n 1, 1) := by decide +kernel
theorem dJ5_append_c97b9_7 : decode cJ5_append_c97b9 7 = .ok (.invokestatic 245, 3) := by decide +kernel
theorem dJ5_append_c97b9_10 : decode cJ5_append_c97b9 10 = .ok (.iadd, 1) := by decide +kernel
theorem dJ5_append_c97b9_11 : decode cJ5_append_c97b9 11 = .ok (.istore_n 3, 1) := by decide +kernel
theorem dJ5_append_c97b9_12 : decode cJ5_append_c97b9 12 = .ok (.aload_n 0, 1) := by decide +kernel
theorem dJ5_append_c97b9_13 : decode cJ5_append_c97b9 13 = .ok (.iload_n 3, 1) := by decide +kernel
theorem dJ5_append_c97b9_14 : decode cJ5_append_c97b9 14 = .ok (.invokevirtual 100, 3) := by decide +kernel
theorem dJ5_append_c97b9_17 : decode cJ5_append_c97b9 17 = .ok (.aload_n 0, 1) := by decide +kernel
theorem dJ5_append_c97b9_18 : decode cJ5_append_c97b9 18 = .ok (.invokevirtual 83, 3) := by decide +kernel
theorem dJ5_append_c97b9_21 : decode cJ5_append_c97b9 21 = .ok (.ifCond .eq 16, 3) := by decide +kernel
theorem dJ5_append_c97b9_24 : decode cJ5_append_c97b9 24 = .ok (.iload_n 1, 1) := by decide +kernel
theorem dJ5_append_c97b9_25 : decode cJ5_append_c97b9 25 = .ok (.iload_n 3, 1) := by decide +kernel
theorem dJ5_append_c97b9_26 : decode cJ5_append_c97b9 26 = .ok (.aload_n 0, 1) := by decide +kernel
theorem dJ5_append_c97b9_27 : decode cJ5_append_c97b9 27 = .ok (.getfield 15, 3) := by decide +kernel
theorem dJ5_append_c97b9_30 : decode cJ5_append_c97b9 30 = .ok (.invokestatic 248, 3) := by decide +kernel
theorem dJ5_append_c97b9_33 : decode cJ5_append_c97b9 33 = .ok (.pop, 1) := by decide +kernel
theorem dJ5_append_c97b9_34 : decode cJ5_append_c97b9 34 = .ok (.goto 14, 3) := by decide +kernel
theorem dJ5_append_c97b9_37 : decode cJ5_append_c97b9 37 = .ok (.iload_n 1, 1) := by decide +kernel
theorem dJ5_append_c97b9_38 : decode cJ5_append_c97b9 38 = .ok (.iload_n 2, 1) := by decide +kernel
theorem dJ5_append_c97b9_39 : decode cJ5_append_c97b9 39 = .ok (.iload_n 3, 1) := by decide +kernel
theorem dJ5_append_c97b9_40 : decode cJ5_append_c97b9 40 = .ok (.aload_n 0, 1) := by decide +kernel
theorem dJ5_append_c97b9_41 : decode cJ5_append_c97b9 41 = .ok (.getfield 15, 3) := by decide +kernel
theorem dJ5_append_c97b9_44 : decode cJ5_append_c97b9 44 = .ok (.invokestatic 251, 3) := by decide +kernel
theorem dJ5_append_c97b9_47 : decode cJ5_append_c97b9 47 = .ok (.pop, 1) := by decide +kernel
theorem dJ5_append_c97b9_48 : decode cJ5_append_c97b9 48 = .ok (.aload_n 0, 1) := by decide +kernel
theorem dJ5_append_c97b9_49 : decode cJ5_append_c97b9 49 = .ok (.iload_n 3, 1) := by decide +kernel
theorem dJ5_append_c97b9_50 : decode cJ5_append_c97b9 50 = .ok (.putfield 79, 3) := by decide +kernel
theorem dJ5_append_c97b9_53 : decode cJ5_append_c97b9 53 = .ok (.aload_n 0, 1) := by decide +kernel
theorem dJ5_append_c97b9_54 : decode cJ5_append_c97b9 54 = .ok (.areturn, 1) := by decide +kernel
theorem dJ5_getValue_6d5f1_0 : decode cJ5_getValue_6d5f1 0 = .ok (.aload_n 0, 1) := by decide +kernel
theorem dJ5_getValue_6d5f1_1 : decode cJ5_getValue_6d5f1 1 = .ok (.getfield 15, 3) := by decide +kernel
theorem dJ5_getValue_6d5f1_4 : decode cJ5_getValue_6d5f1 4 = .ok (.areturn, 1) := by decide +kernel
theorem dJ5_isLatin1_aae02_0 : decode cJ5_isLatin1_aae02 0 = .ok (.getstatic 18, 3) := by decide +kernel
theorem dJ5_isLatin1_aae02_3 : decode cJ5_isLatin1_aae02 3 = .ok (.ifCond .eq 14, 3) := by decide +kernel
theorem dJ5_isLatin1_aae02_6 : decode cJ5_isLatin1_aae02 6 = .ok (.aload_n 0, 1) := by decide +kernel
theorem dJ5_isLatin1_aae02_7 : decode cJ5_isLatin1_aae02 7 = .ok (.getfield 22, 3) := by decide +kernel
theorem dJ5_isLatin1_aae02_10 : decode cJ5_isLatin1_aae02 10 = .ok (.ifCond .ne 7, 3) := by decide +kernel
theorem dJ5_isLatin1_aae02_13 : decode cJ5_isLatin1_aae02 13 = .ok (.iconst 1, 1) := by decide +kernel
theorem dJ5_isLatin1_aae02_14 : decode cJ5_isLatin1_aae02 14 = .ok (.goto 4, 3) := by decide +kernel
theorem dJ5_isLatin1_aae02_17 : decode cJ5_isLatin1_aae02 17 = .ok (.iconst 0, 1) := by decide +kernel
theorem dJ5_isLatin1_aae02_18 : decode cJ5_isLatin1_aae02 18 = .ok (.ireturn, 1) := by decide +kernel
theorem dJ5_inflateIfNeededFor_a7421_0 : decode cJ5_inflateIfNeededFor_a7421 0 = .ok (.getstatic 18, 3) := by decide +kernel
theorem dJ5_inflateIfNeededFor_a7421_3 : decode cJ5_inflateIfNeededFor_a7421 3 = .ok (.ifCond .eq 18, 3) := by decide +kernel
theorem dJ5_inflateIfNeededFor_a7421_6 : decode cJ5_inflateIfNeededFor_a7421 6 = .ok (.aload_n 0, 1) := by decide +kernel
theorem dJ5_inflateIfNeededFor_a7421_7 : decode cJ5_inflateIfNeededFor_a7421 7 = .ok (.getfield 22, 3) := by decide +kernel
theorem dJ5_inflateIfNeededFor_a7421_10 : decode cJ5_inflateIfNeededFor_a7421 10 = .ok (.aload_n 1, 1) := by decide +kernel
theorem dJ5_inflateIfNeededFor_a7421_11 : decode cJ5_inflateIfNeededFor_a7421 11 = .ok (.invokevirtual 40, 3) := by decide +kernel
theorem dJ5_inflateIfNeededFor_a7421_14 : decode cJ5_inflateIfNeededFor_a7421 14 = .ok (.if_icmp .eq 7, 3) := by decide +kernel
theorem dJ5_inflateIfNeededFor_a7421_17 : decode cJ5_inflateIfNeededFor_a7421 17 = .ok (.aload_n 0, 1) := by decide +kernel
theorem dJ5_inflateIfNeededFor_a7421_18 : decode cJ5_inflateIfNeededFor_a7421 18 = .ok (.invokevirtual 195, 3) := by decide +kernel
theorem dJ5_inflateIfNeededFor_a7421_21 : decode cJ5_inflateIfNeededFor_a7421 21 = .ok (.return_, 1) := by decide +kernel
theorem dJ5_putStringAt_47b60_0 : decode cJ5_putStringAt_47b60 0 = .ok (.aload_n 0, 1) := by decide +kernel
theorem dJ5_putStringAt_47b60_1 : decode cJ5_putStringAt_47b60 1 = .ok (.aload_n 2, 1) := by decide +kernel
theorem dJ5_putStringAt_47b60_2 : decode cJ5_putStringAt_47b60 2 = .ok (.invokevirtual 397, 3) := by decide +kernel
theorem dJ5_putStringAt_47b60_5 : decode cJ5_putStringAt_47b60 5 = .ok (.aload_n 2, 1) := by decide +kernel
theorem dJ5_putStringAt_47b60_6 : decode cJ5_putStringAt_47b60 6 = .ok (.aload_n 0, 1) := by decide +kernel
theorem dJ5_putStringAt_47b60_7 : decode cJ5_putStringAt_47b60 7 = .ok (.getfield 15, 3) := by decide +kernel
theorem dJ5_putStringAt_47b60_10 : decode cJ5_putStringAt_47b60 10 = .ok (.iload_n 1, 1) := by decide +kernel
theorem dJ5_putStringAt_47b60_11 : decode cJ5_putStringAt_47b60 11 = .ok (.aload_n 0, 1) := by decide +kernel
theorem dJ5_putStringAt_47b60_12 : decode cJ5_putStringAt_47b60 12 = .ok (.getfield 22, 3) := by decide +kernel
theorem dJ5_putStringAt_47b60_15 : decode cJ5_putStringAt_47b60 15 = .ok (.invokevirtual 399, 3) := by decide +kernel
theorem dJ5_putStringAt_47b60_18 : decode cJ5_putStringAt_47b60 18 = .ok (.return_, 1) := by decide +kernel
theorem dJ6_getChars_ba4f3_0 : decode cJ6_getChars_ba4f3 0 = .ok (.iload_n 1, 1) := by decide +kernel
theorem dJ6_getChars_ba4f3_1 : decode cJ6_getChars_ba4f3 1 = .ok (.istore 5, 2) := by decide +kernel
theorem dJ6_getChars_ba4f3_3 : decode cJ6_getChars_ba4f3 3 = .ok (.iload_n 0, 1) := by decide +kernel
theorem dJ6_getChars_ba4f3_4 : decode cJ6_getChars_ba4f3 4 = .ok (.ifCond .ge 7, 3) := by decide +kernel
theorem dJ6_getChars_ba4f3_7 : decode cJ6_getChars_ba4f3 7 = .ok (.iconst 1, 1) := by decide +kernel
theorem dJ6_getChars_ba4f3_8 : decode cJ6_getChars_ba4f3 8 = .ok (.goto 4, 3) := by decide +kernel
theorem dJ6_getChars_ba4f3_11 : decode cJ6_getChars_ba4f3 11 = .ok (.iconst 0, 1) := by decide +kernel
theorem dJ6_getChars_ba4f3_12 : decode cJ6_getChars_ba4f3 12 = .ok (.istore 6, 2) := by decide +kernel
theorem dJ6_getChars_ba4f3_14 : decode cJ6_getChars_ba4f3 14 = .ok (.iload 6, 2) := by decide +kernel
theorem dJ6_getChars_ba4f3_16 : decode cJ6_getChars_ba4f3 16 = .ok (.ifCond .ne 6, 3) := by decide +kernel
theorem dJ6_getChars_ba4f3_19 : decode cJ6_getChars_ba4f3 19 = .ok (.iload_n 0, 1) := by decide +kernel
theorem dJ6_getChars_ba4f3_20 : decode cJ6_getChars_ba4f3 20 = .ok (.ineg, 1) := by decide +kernel
theorem dJ6_getChars_ba4f3_21 : decode cJ6_getChars_ba4f3 21 = .ok (.istore_n 0, 1) := by decide +kernel
theorem dJ6_getChars_ba4f3_22 : decode cJ6_getChars_ba4f3 22 = .ok (.iload_n 0, 1) := by decide +kernel
theorem dJ6_getChars_ba4f3_23 : decode cJ6_getChars_ba4f3 23 = .ok (.bipush (-100), 2) := by decide +kernel
theorem dJ6_getChars_ba4f3_25 : decode cJ6_getChars_ba4f3 25 = .ok (.if_icmp .gt 47, 3) := by decide +kernel
theorem dJ6_getChars_ba4f3_28 : decode cJ6_getChars_ba4f3 28 = .ok (.iload_n 0, 1) := by decide +kernel
theorem dJ6_getChars_ba4f3_29 : decode cJ6_getChars_ba4f3 29 = .ok (.bipush 100, 2) := by decide +kernel
theorem dJ6_getChars_ba4f3_31 : decode cJ6_getChars_ba4f3 31 = .ok (.idiv, 1) := by decide +kernel
theorem dJ6_getChars_ba4f3_32 : decode cJ6_getChars_ba4f3 32 = .ok (.istore_n 3, 1) := by decide +kernel
theorem dJ6_getChars_ba4f3_33 : decode cJ6_getChars_ba4f3 33 = .ok (.iload_n 3, 1) := by decide +kernel
theorem dJ6_getChars_ba4f3_34 : decode cJ6_getChars_ba4f3 34 = .ok (.bipush 100, 2) := by decide +kernel
theorem dJ6_getChars_ba4f3_36 : decode cJ6_getChars_ba4f3 36 = .ok (.imul, 1) := by decide +kernel
theorem dJ6_getChars_ba4f3_37 : decode cJ6_getChars_ba4f3 37 = .ok (.iload_n 0, 1) := by decide +kernel
theorem dJ6_getChars_ba4f3_38 : decode cJ6_getChars_ba4f3 38 = .ok (.isub, 1) := by decide +kernel
theorem dJ6_getChars_ba4f3_39 : decode cJ6_getChars_ba4f3 39 = .ok (.istore 4, 2) := by decide +kernel
theorem dJ6_getChars_ba4f3_41 : decode cJ6_getChars_ba4f3 41 = .ok (.iload_n 3, 1) := by decide +kernel
theorem dJ6_getChars_ba4f3_42 : decode cJ6_getChars_ba4f3 42 = .ok (.istore_n 0, 1) := by decide +kernel
theorem dJ6_getChars_ba4f3_43 : decode cJ6_getChars_ba4f3 43 = .ok (.aload_n 2, 1) := by decide +kernel
theorem dJ6_getChars_ba4f3_44 : decode cJ6_getChars_ba4f3 44 = .ok (.iinc 5 (-1), 3) := by decide +kernel
theorem dJ6_getChars_ba4f3_47 : decode cJ6_getChars_ba4f3 47 = .ok (.iload 5, 2) := by decide +kernel
theorem dJ6_getChars_ba4f3_49 : decode cJ6_getChars_ba4f3 49 = .ok (.getstatic 83, 3) := by decide +kernel
theorem dJ6_getChars_ba4f3_52 : decode cJ6_getChars_ba4f3 52 = .ok (.iload 4, 2) := by decide +kernel
theorem dJ6_getChars_ba4f3_54 : decode cJ6_getChars_ba4f3 54 = .ok (.baload, 1) := by decide +kernel
theorem dJ6_getChars_ba4f3_55 : decode cJ6_getChars_ba4f3 55 = .ok (.bastore, 1) := by decide +kernel
theorem dJ6_getChars_ba4f3_56 : decode cJ6_getChars_ba4f3 56 = .ok (.aload_n 2, 1) := by decide +kernel
theorem dJ6_getChars_ba4f3_57 : decode cJ6_getChars_ba4f3 57 = .ok (.iinc 5 (-1), 3) := by decide +kernel
theorem dJ6_getChars_ba4f3_60 : decode cJ6_getChars_ba4f3 60 = .ok (.iload 5, 2) := by decide +kernel
theorem dJ6_getChars_ba4f3_62 : decode cJ6_getChars_ba4f3 62 = .ok (.getstatic 87, 3) := by decide +kernel
theorem dJ6_getChars_ba4f3_65 : decode cJ6_getChars_ba4f3 65 = .ok (.iload 4, 2) := by decide +kernel
theorem dJ6_getChars_ba4f3_67 : decode cJ6_getChars_ba4f3 67 = .ok (.baload, 1) := by decide +kernel
theorem dJ6_getChars_ba4f3_68 : decode cJ6_getChars_ba4f3 68 = .ok (.bastore, 1) := by decide +kernel
theorem dJ6_getChars_ba4f3_69 : decode cJ6_getChars_ba4f3 69 = .ok (.goto (-47), 3) := by decide +kernel
theorem dJ6_getChars_ba4f3_72 : decode cJ6_getChars_ba4f3 72 = .ok (.aload_n 2, 1) := by decide +kernel
theorem dJ6_getChars_ba4f3_73 : decode cJ6_getChars_ba4f3 73 = .ok (.iinc 5 (-1), 3) := by decide +kernel
theorem dJ6_getChars_ba4f3_76 : decode cJ6_getChars_ba4f3 76 = .ok (.iload 5, 2) := by decide +kernel
theorem dJ6_getChars_ba4f3_78 : decode cJ6_getChars_ba4f3 78 = .ok (.getstatic 83, 3) := by decide +kernel
theorem dJ6_getChars_ba4f3_81 : decode cJ6_getChars_ba4f3 81 = .ok (.iload_n 0, 1) := by decide +kernel
theorem dJ6_getChars_ba4f3_82 : decode cJ6_getChars_ba4f3 82 = .ok (.ineg, 1) := by decide +kernel
theorem dJ6_getChars_ba4f3_83 : decode cJ6_getChars_ba4f3 83 = .ok (.baload, 1) := by decide +kernel
theorem dJ6_getChars_ba4f3_84 : decode cJ6_getChars_ba4f3 84 = .ok (.bastore, 1) := by decide +kernel
theorem dJ6_getChars_ba4f3_85 : decode cJ6_getChars_ba4f3 85 = .ok (.iload_n 0, 1) := by decide +kernel
theorem dJ6_getChars_ba4f3_86 : decode cJ6_getChars_ba4f3 86 = .ok (.bipush (-9), 2) := by decide +kernel
theorem dJ6_getChars_ba4f3_88 : decode cJ6_getChars_ba4f3 88 = .ok (.if_icmp .ge 16, 3) := by decide +kernel
theorem dJ6_getChars_ba4f3_91 : decode cJ6_getChars_ba4f3 91 = .ok (.aload_n 2, 1) := by decide +kernel
theorem dJ6_getChars_ba4f3_92 : decode cJ6_getChars_ba4f3 92 = .ok (.iinc 5 (-1), 3) := by decide +kernel
theorem dJ6_getChars_ba4f3_95 : decode cJ6_getChars_ba4f3 95 = .ok (.iload 5, 2) := by decide +kernel
theorem dJ6_getChars_ba4f3_97 : decode cJ6_getChars_ba4f3 97 = .ok (.getstatic 87, 3) := by decide +kernel
theorem dJ6_getChars_ba4f3_100 : decode cJ6_getChars_ba4f3 100 = .ok (.iload_n 0, 1) := by decide +kernel
theorem dJ6_getChars_ba4f3_101 : decode cJ6_getChars_ba4f3 101 = .ok (.ineg, 1) := by decide +kernel
theorem dJ6_getChars_ba4f3_102 : decode cJ6_getChars_ba4f3 102 = .ok (.baload, 1) := by decide +kernel
theorem dJ6_getChars_ba4f3_103 : decode cJ6_getChars_ba4f3 103 = .ok (.bastore, 1) := by decide +kernel
theorem dJ6_getChars_ba4f3_104 : decode cJ6_getChars_ba4f3 104 = .ok (.iload 6, 2) := by decide +kernel
theorem dJ6_getChars_ba4f3_106 : decode cJ6_getChars_ba4f3 106 = .ok (.ifCond .eq 12, 3) := by decide +kernel
theorem dJ6_getChars_ba4f3_109 : decode cJ6_getChars_ba4f3 109 = .ok (.aload_n 2, 1) := by decide +kernel
theorem dJ6_getChars_ba4f3_110 : decode cJ6_getChars_ba4f3 110 = .ok (.iinc 5 (-1), 3) := by decide +kernel
theorem dJ6_getChars_ba4f3_113 : decode cJ6_getChars_ba4f3 113 = .ok (.iload 5, 2) := by decide +kernel
theorem dJ6_getChars_ba4f3_115 : decode cJ6_getChars_ba4f3 115 = .ok (.bipush 45, 2) := by decide +kernel
theorem dJ6_getChars_ba4f3_117 : decode cJ6_getChars_ba4f3 117 = .ok (.bastore, 1) := by decide +kernel
theorem dJ6_getChars_ba4f3_118 : decode cJ6_getChars_ba4f3 118 = .ok (.iload 5, 2) := by decide +kernel
theorem dJ6_getChars_ba4f3_120 : decode cJ6_getChars_ba4f3 120 = .ok (.ireturn, 1) := by decide +kernel
theorem dJ6_stringSize_0f7a4_0 : decode cJ6_stringSize_0f7a4 0 = .ok (.iconst 1, 1) := by decide +kernel
theorem dJ6_stringSize_0f7a4_1 : decode cJ6_stringSize_0f7a4 1 = .ok (.istore_n 1, 1) := by decide +kernel
theorem dJ6_stringSize_0f7a4_2 : decode cJ6_stringSize_0f7a4 2 = .ok (.iload_n 0, 1) := by decide +kernel
theorem dJ6_stringSize_0f7a4_3 : decode cJ6_stringSize_0f7a4 3 = .ok (.ifCond .lt 8, 3) := by decide +kernel
theorem dJ6_stringSize_0f7a4_6 : decode cJ6_stringSize_0f7a4 6 = .ok (.iconst 0, 1) := by decide +kernel
theorem dJ6_stringSize_0f7a4_7 : decode cJ6_stringSize_0f7a4 7 = .ok (.istore_n 1, 1) := by decide +kernel
theorem dJ6_stringSize_0f7a4_8 : decode cJ6_stringSize_0f7a4 8 = .ok (.iload_n 0, 1) := by decide +kernel
theorem dJ6_stringSize_0f7a4_9 : decode cJ6_stringSize_0f7a4 9 = .ok (.ineg, 1) := by decide +kernel
theorem dJ6_stringSize_0f7a4_10 : decode cJ6_stringSize_0f7a4 10 = .ok (.istore_n 0, 1) := by decide +kernel
theorem dJ6_stringSize_0f7a4_11 : decode cJ6_stringSize_0f7a4 11 = .ok (.bipush (-10), 2) := by decide +kernel
theorem dJ6_stringSize_0f7a4_13 : decode cJ6_stringSize_0f7a4 13 = .ok (.istore_n 2, 1) := by decide +kernel
theorem dJ6_stringSize_0f7a4_14 : decode cJ6_stringSize_0f7a4 14 = .ok (.iconst 1, 1) := by decide +kernel
theorem dJ6_stringSize_0f7a4_15 : decode cJ6_stringSize_0f7a4 15 = .ok (.istore_n 3, 1) := by decide +kernel
theorem dJ6_stringSize_0f7a4_16 : decode cJ6_stringSize_0f7a4 16 = .ok (.iload_n 3, 1) := by decide +kernel
theorem dJ6_stringSize_0f7a4_17 : decode cJ6_stringSize_0f7a4 17 = .ok (.bipush 10, 2) := by decide +kernel
theorem dJ6_stringSize_0f7a4_19 : decode cJ6_stringSize_0f7a4 19 = .ok (.if_icmp .ge 23, 3) := by decide +kernel
theorem dJ6_stringSize_0f7a4_22 : decode cJ6_stringSize_0f7a4 22 = .ok (.iload_n 0, 1) := by decide +kernel
theorem dJ6_stringSize_0f7a4_23 : decode cJ6_stringSize_0f7a4 23 = .ok (.iload_n 2, 1) := by decide +kernel
theorem dJ6_stringSize_0f7a4_24 : decode cJ6_stringSize_0f7a4 24 = .ok (.if_icmp .le 7, 3) := by decide +kernel
theorem dJ6_stringSize_0f7a4_27 : decode cJ6_stringSize_0f7a4 27 = .ok (.iload_n 3, 1) := by decide +kernel
theorem dJ6_stringSize_0f7a4_28 : decode cJ6_stringSize_0f7a4 28 = .ok (.iload_n 1, 1) := by decide +kernel
theorem dJ6_stringSize_0f7a4_29 : decode cJ6_stringSize_0f7a4 29 = .ok (.iadd, 1) := by decide +kernel
theorem dJ6_stringSize_0f7a4_30 : decode cJ6_stringSize_0f7a4 30 = .ok (.ireturn, 1) := by decide +kernel
theorem dJ6_stringSize_0f7a4_31 : decode cJ6_stringSize_0f7a4 31 = .ok (.bipush 10, 2) := by decide +kernel
theorem dJ6_stringSize_0f7a4_33 : decode cJ6_stringSize_0f7a4 33 = .ok (.iload_n 2, 1) := by decide +kernel
theorem dJ6_stringSize_0f7a4_34 : decode cJ6_stringSize_0f7a4 34 = .ok (.imul, 1) := by decide +kernel
theorem dJ6_stringSize_0f7a4_35 : decode cJ6_stringSize_0f7a4 35 = .ok (.istore_n 2, 1) := by decide +kernel
theorem dJ6_stringSize_0f7a4_36 : decode cJ6_stringSize_0f7a4 36 = .ok (.iinc 3 1, 3) := by decide +kernel
theorem dJ6_stringSize_0f7a4_39 : decode cJ6_stringSize_0f7a4 39 = .ok (.goto (-23), 3) := by decide +kernel
theorem dJ6_stringSize_0f7a4_42 : decode cJ6_stringSize_0f7a4 42 = .ok (.bipush 10, 2) := by decide +kernel
theorem dJ6_stringSize_0f7a4_44 : decode cJ6_stringSize_0f7a4 44 = .ok (.iload_n 1, 1) := by decide +kernel
theorem dJ6_stringSize_0f7a4_45 : decode cJ6_stringSize_0f7a4 45 = .ok (.iadd, 1) := by decide +kernel
theorem dJ6_stringSize_0f7a4_46 : decode cJ6_stringSize_0f7a4 46 = .ok (.ireturn, 1) := by decide +kernel
theorem dJ6_lowestOneBit_0f7a4_0 : decode cJ6_lowestOneBit_0f7a4 0 = .ok (.iload_n 0, 1) := by decide +kernel
theorem dJ6_lowestOneBit_0f7a4_1 : decode cJ6_lowestOneBit_0f7a4 1 = .ok (.iload_n 0, 1) := by decide +kernel
theorem dJ6_lowestOneBit_0f7a4_2 : decode cJ6_lowestOneBit_0f7a4 2 = .ok (.ineg, 1) := by decide +kernel
theorem dJ6_lowestOneBit_0f7a4_3 : decode cJ6_lowestOneBit_0f7a4 3 = .ok (.iand, 1) := by decide +kernel
theorem dJ6_lowestOneBit_0f7a4_4 : decode cJ6_lowestOneBit_0f7a4 4 = .ok (.ireturn, 1) := by decide +kernel
theorem dJ6_bitCount_0f7a4_0 : decode cJ6_bitCount_0f7a4 0 = .ok (.iload_n 0, 1) := by decide +kernel
theorem dJ6_bitCount_0f7a4_1 : decode cJ6_bitCount_0f7a4 1 = .ok (.iload_n 0, 1) := by decide +kernel
theorem dJ6_bitCount_0f7a4_2 : decode cJ6_bitCount_0f7a4 2 = .ok (.iconst 1, 1) := by decide +kernel
theorem dJ6_bitCount_0f7a4_3 : decode cJ6_bitCount_0f7a4 3 = .ok (.iushr, 1) := by decide +kernel
theorem dJ6_bitCount_0f7a4_4 : decode cJ6_bitCount_0f7a4 4 = .ok (.ldc_w 265, 3) := by decide +kernel
theorem dJ6_bitCount_0f7a4_7 : decode cJ6_bitCount_0f7a4 7 = .ok (.iand, 1) := by decide +kernel
theorem dJ6_bitCount_0f7a4_8 : decode cJ6_bitCount_0f7a4 8 = .ok (.isub, 1) := by decide +kernel
theorem dJ6_bitCount_0f7a4_9 : decode cJ6_bitCount_0f7a4 9 = .ok (.istore_n 0, 1) := by decide +kernel
theorem dJ6_bitCount_0f7a4_10 : decode cJ6_bitCount_0f7a4 10 = .ok (.iload_n 0, 1) := by decide +kernel
theorem dJ6_bitCount_0f7a4_11 : decode cJ6_bitCount_0f7a4 11 = .ok (.ldc_w 266, 3) := by decide +kernel
theorem dJ6_bitCount_0f7a4_14 : decode cJ6_bitCount_0f7a4 14 = .ok (.iand, 1) := by decide +kernel
theorem dJ6_bitCount_0f7a4_15 : decode cJ6_bitCount_0f7a4 15 = .ok (.iload_n 0, 1) := by decide +kernel
theorem dJ6_bitCount_0f7a4_16 : decode cJ6_bitCount_0f7a4 16 = .ok (.iconst 2, 1) := by decide +kernel
theorem dJ6_bitCount_0f7a4_17 : decode cJ6_bitCount_0f7a4 17 = .ok (.iushr, 1) := by decide +kernel
theorem dJ6_bitCount_0f7a4_18 : decode cJ6_bitCount_0f7a4 18 = .ok (.ldc_w 266, 3) := by decide +kernel
theorem dJ6_bitCount_0f7a4_21 : decode cJ6_bitCount_0f7a4 21 = .ok (.iand, 1) := by decide +kernel
theorem dJ6_bitCount_0f7a4_22 : decode cJ6_bitCount_0f7a4 22 = .ok (.iadd, 1) := by decide +kernel
theorem dJ6_bitCount_0f7a4_23 : decode cJ6_bitCount_0f7a4 23 = .ok (.istore_n 0, 1) := by decide +kernel
theorem dJ6_bitCount_0f7a4_24 : decode cJ6_bitCount_0f7a4 24 = .ok (.iload_n 0, 1) := by decide +kernel
theorem dJ6_bitCount_0f7a4_25 : decode cJ6_bitCount_0f7a4 25 = .ok (.iload_n 0, 1) := by decide +kernel
theorem dJ6_bitCount_0f7a4_26 : decode cJ6_bitCount_0f7a4 26 = .ok (.iconst 4, 1) := by decide +kernel
theorem dJ6_bitCount_0f7a4_27 : decode cJ6_bitCount_0f7a4 27 = .ok (.iushr, 1) := by decide +kernel
theorem dJ6_bitCount_0f7a4_28 : decode cJ6_bitCount_0f7a4 28 = .ok (.iadd, 1) := by decide +kernel
theorem dJ6_bitCount_0f7a4_29 : decode cJ6_bitCount_0f7a4 29 = .ok (.ldc_w 267, 3) := by decide +kernel
theorem dJ6_bitCount_0f7a4_32 : decode cJ6_bitCount_0f7a4 32 = .ok (.iand, 1) := by decide +kernel
theorem dJ6_bitCount_0f7a4_33 : decode cJ6_bitCount_0f7a4 33 = .ok (.istore_n 0, 1) := by decide +kernel
theorem dJ6_bitCount_0f7a4_34 : decode cJ6_bitCount_0f7a4 34 = .ok (.iload_n 0, 1) := by decide +kernel
theorem dJ6_bitCount_0f7a4_35 : decode cJ6_bitCount_0f7a4 35 = .ok (.iload_n 0, 1) := by decide +kernel
theorem dJ6_bitCount_0f7a4_36 : decode cJ6_bitCount_0f7a4 36 = .ok (.bipush 8, 2) := by decide +kernel
theorem dJ6_bitCount_0f7a4_38 : decode cJ6_bitCount_0f7a4 38 = .ok (.iushr, 1) := by decide +kernel
theorem dJ6_bitCount_0f7a4_39 : decode cJ6_bitCount_0f7a4 39 = .ok (.iadd, 1) := by decide +kernel
theorem dJ6_bitCount_0f7a4_40 : decode cJ6_bitCount_0f7a4 40 = .ok (.istore_n 0, 1) := by decide +kernel
theorem dJ6_bitCount_0f7a4_41 : decode cJ6_bitCount_0f7a4 41 = .ok (.iload_n 0, 1) := by decide +kernel
theorem dJ6_bitCount_0f7a4_42 : decode cJ6_bitCount_0f7a4 42 = .ok (.iload_n 0, 1) := by decide +kernel
theorem dJ6_bitCount_0f7a4_43 : decode cJ6_bitCount_0f7a4 43 = .ok (.bipush 16, 2) := by decide +kernel
theorem dJ6_bitCount_0f7a4_45 : decode cJ6_bitCount_0f7a4 45 = .ok (.iushr, 1) := by decide +kernel
theorem dJ6_bitCount_0f7a4_46 : decode cJ6_bitCount_0f7a4 46 = .ok (.iadd, 1) := by decide +kernel
theorem dJ6_bitCount_0f7a4_47 : decode cJ6_bitCount_0f7a4 47 = .ok (.istore_n 0, 1) := by decide +kernel
theorem dJ6_bitCount_0f7a4_48 : decode cJ6_bitCount_0f7a4 48 = .ok (.iload_n 0, 1) := by decide +kernel
theorem dJ6_bitCount_0f7a4_49 : decode cJ6_bitCount_0f7a4 49 = .ok (.bipush 63, 2) := by decide +kernel
theorem dJ6_bitCount_0f7a4_51 : decode cJ6_bitCount_0f7a4 51 = .ok (.iand, 1) := by decide +kernel
theorem dJ6_bitCount_0f7a4_52 : decode cJ6_bitCount_0f7a4 52 = .ok (.ireturn, 1) := by decide +kernel
theorem dJ9_floorMod_7cf53_0 : decode cJ9_floorMod_7cf53 0 = .ok (.iload_n 0, 1) := by decide +kernel
theorem dJ9_floorMod_7cf53_1 : decode cJ9_floorMod_7cf53 1 = .ok (.iload_n 1, 1) := by decide +kernel
theorem dJ9_floorMod_7cf53_2 : decode cJ9_floorMod_7cf53 2 = .ok (.irem, 1) := by decide +kernel
theorem dJ9_floorMod_7cf53_3 : decode cJ9_floorMod_7cf53 3 = .ok (.istore_n 2, 1) := by decide +kernel
theorem dJ9_floorMod_7cf53_4 : decode cJ9_floorMod_7cf53 4 = .ok (.iload_n 0, 1) := by decide +kernel
theorem dJ9_floorMod_7cf53_5 : decode cJ9_floorMod_7cf53 5 = .ok (.iload_n 1, 1) := by decide +kernel
theorem dJ9_floorMod_7cf53_6 : decode cJ9_floorMod_7cf53 6 = .ok (.ixor, 1) := by decide +kernel
theorem dJ9_floorMod_7cf53_7 : decode cJ9_floorMod_7cf53 7 = .ok (.ifCond .ge 11, 3) := by decide +kernel
theorem dJ9_floorMod_7cf53_10 : decode cJ9_floorMod_7cf53 10 = .ok (.iload_n 2, 1) := by decide +kernel
theorem dJ9_floorMod_7cf53_11 : decode cJ9_floorMod_7cf53 11 = .ok (.ifCond .eq 7, 3) := by decide +kernel
theorem dJ9_floorMod_7cf53_14 : decode cJ9_floorMod_7cf53 14 = .ok (.iload_n 2, 1) := by decide +kernel
theorem dJ9_floorMod_7cf53_15 : decode cJ9_floorMod_7cf53 15 = .ok (.iload_n 1, 1) := by decide +kernel
theorem dJ9_floorMod_7cf53_16 : decode cJ9_floorMod_7cf53 16 = .ok (.iadd, 1) := by decide +kernel
theorem dJ9_floorMod_7cf53_17 : decode cJ9_floorMod_7cf53 17 = .ok (.ireturn, 1) := by decide +kernel
theorem dJ9_floorMod_7cf53_18 : decode cJ9_floorMod_7cf53 18 = .ok (.iload_n 2, 1) := by decide +kernel
theorem dJ9_floorMod_7cf53_19 : decode cJ9_floorMod_7cf53 19 = .ok (.ireturn, 1) := by decide +kernel
theorem dJ9_max_7cf53_0 : decode cJ9_max_7cf53 0 = .ok (.iload_n 0, 1) := by decide +kernel
theorem dJ9_max_7cf53_1 : decode cJ9_max_7cf53 1 = .ok (.iload_n 1, 1) := by decide +kernel
theorem dJ9_max_7cf53_2 : decode cJ9_max_7cf53 2 = .ok (.if_icmp .lt 7, 3) := by decide +kernel
theorem dJ9_max_7cf53_5 : decode cJ9_max_7cf53 5 = .ok (.iload_n 0, 1) := by decide +kernel
theorem dJ9_max_7cf53_6 : decode cJ9_max_7cf53 6 = .ok (.goto 4, 3) := by decide +kernel
theorem dJ9_max_7cf53_9 : decode cJ9_max_7cf53 9 = .ok (.iload_n 1, 1) := by decide +kernel
theorem dJ9_max_7cf53_10 : decode cJ9_max_7cf53 10 = .ok (.ireturn, 1) := by decide +kernel
theorem dJ9_min_7cf53_0 : decode cJ9_min_7cf53 0 = .ok (.iload_n 0, 1) := by decide +kernel
theorem dJ9_min_7cf53_1 : decode cJ9_min_7cf53 1 = .ok (.iload_n 1, 1) := by decide +kernel
theorem dJ9_min_7cf53_2 : decode cJ9_min_7cf53 2 = .ok (.if_icmp .gt 7, 3) := by decide +kernel
theorem dJ9_min_7cf53_5 : decode cJ9_min_7cf53 5 = .ok (.iload_n 0, 1) := by decide +kernel
theorem dJ9_min_7cf53_6 : decode cJ9_min_7cf53 6 = .ok (.goto 4, 3) := by decide +kernel
theorem dJ9_min_7cf53_9 : decode cJ9_min_7cf53 9 = .ok (.iload_n 1, 1) := by decide +kernel
theorem dJ9_min_7cf53_10 : decode cJ9_min_7cf53 10 = .ok (.ireturn, 1) := by decide +kernel
theorem dJ0_init_81219_0 : decode cJ0_init_81219 0 = .ok (.aload_n 0, 1) := by decide +kernel
theorem dJ0_init_81219_1 : decode cJ0_init_81219 1 = .ok (.aload_n 1, 1) := by decide +kernel
theorem dJ0_init_81219_2 : decode cJ0_init_81219 2 = .ok (.aconst_null, 1) := by decide +kernel
theorem dJ0_init_81219_3 : decode cJ0_init_81219 3 = .ok (.invokespecial 489, 3) := by decide +kernel
theorem dJ0_init_81219_6 : decode cJ0_init_81219 6 = .ok (.return_, 1) := by decide +kernel
theorem dJ0_length_8abf5_0 : decode cJ0_length_8abf5 0 = .ok (.aload_n 0, 1) := by decide +kernel
theorem dJ0_length_8abf5_1 : decode cJ0_length_8abf5 1 = .ok (.getfield 9, 3) := by decide +kernel
theorem dJ0_length_8abf5_4 : decode cJ0_length_8abf5 4 = .ok (.arraylength, 1) := by decide +kernel
theorem dJ0_length_8abf5_5 : decode cJ0_length_8abf5 5 = .ok (.aload_n 0, 1) := by decide +kernel
theorem dJ0_length_8abf5_6 : decode cJ0_length_8abf5 6 = .ok (.invokevirtual 335, 3) := by decide +kernel
theorem dJ0_length_8abf5_9 : decode cJ0_length_8abf5 9 = .ok (.ishr, 1) := by decide +kernel
theorem dJ0_length_8abf5_10 : decode cJ0_length_8abf5 10 = .ok (.ireturn, 1) := by decide +kernel
theorem dJ0_charAt_5068e_0 : decode cJ0_charAt_5068e 0 = .ok (.aload_n 0, 1) := by decide +kernel
theorem dJ0_charAt_5068e_1 : decode cJ0_charAt_5068e 1 = .ok (.invokevirtual 492, 3) := by decide +kernel
theorem dJ0_charAt_5068e_4 : decode cJ0_charAt_5068e 4 = .ok (.ifCond .eq 12, 3) := by decide +kernel
theorem dJ0_charAt_5068e_7 : decode cJ0_charAt_5068e 7 = .ok (.aload_n 0, 1) := by decide +kernel
theorem dJ0_charAt_5068e_8 : decode cJ0_charAt_5068e 8 = .ok (.getfield 9, 3) := by decide +kernel
theorem dJ0_charAt_5068e_11 : decode cJ0_charAt_5068e 11 = .ok (.iload_n 1, 1) := by decide +kernel
theorem dJ0_charAt_5068e_12 : decode cJ0_charAt_5068e 12 = .ok (.invokestatic 495, 3) := by decide +kernel
theorem dJ0_charAt_5068e_15 : decode cJ0_charAt_5068e 15 = .ok (.ireturn, 1) := by decide +kernel
theorem dJ0_charAt_5068e_16 : decode cJ0_charAt_5068e 16 = .ok (.aload_n 0, 1) := by decide +kernel
theorem dJ0_charAt_5068e_17 : decode cJ0_charAt_5068e 17 = .ok (.getfield 9, 3) := by decide +kernel
theorem dJ0_charAt_5068e_20 : decode cJ0_charAt_5068e 20 = .ok (.iload_n 1, 1) := by decide +kernel
theorem dJ0_charAt_5068e_21 : decode cJ0_charAt_5068e 21 = .ok (.invokestatic 498, 3) := by decide +kernel
theorem dJ0_charAt_5068e_24 : decode cJ0_charAt_5068e 24 = .ok (.ireturn, 1) := by decide +kernel
theorem dJ0_equals_9ea2d_0 : decode cJ0_equals_9ea2d 0 = .ok (.aload_n 0, 1) := by decide +kernel
theorem dJ0_equals_9ea2d_1 : decode cJ0_equals_9ea2d 1 = .ok (.aload_n 1, 1) := by decide +kernel
theorem dJ0_equals_9ea2d_2 : decode cJ0_equals_9ea2d 2 = .ok (.if_acmp .ne 5, 3) := by decide +kernel
theorem dJ0_equals_9ea2d_5 : decode cJ0_equals_9ea2d 5 = .ok (.iconst 1, 1) := by decide +kernel
theorem dJ0_equals_9ea2d_6 : decode cJ0_equals_9ea2d 6 = .ok (.ireturn, 1) := by decide +kernel
theorem dJ0_equals_9ea2d_7 : decode cJ0_equals_9ea2d 7 = .ok (.aload_n 1, 1) := by decide +kernel
theorem dJ0_equals_9ea2d_8 : decode cJ0_equals_9ea2d 8 = .ok (.instanceof 10, 3) := by decide +kernel
theorem dJ0_equals_9ea2d_11 : decode cJ0_equals_9ea2d 11 = .ok (.ifCond .eq 43, 3) := by decide +kernel
theorem dJ0_equals_9ea2d_14 : decode cJ0_equals_9ea2d 14 = .ok (.aload_n 1, 1) := by decide +kernel
theorem dJ0_equals_9ea2d_15 : decode cJ0_equals_9ea2d 15 = .ok (.checkcast 10, 3) := by decide +kernel
theorem dJ0_equals_9ea2d_18 : decode cJ0_equals_9ea2d 18 = .ok (.astore_n 2, 1) := by decide +kernel
theorem dJ0_equals_9ea2d_19 : decode cJ0_equals_9ea2d 19 = .ok (.getstatic 38, 3) := by decide +kernel
theorem dJ0_equals_9ea2d_22 : decode cJ0_equals_9ea2d 22 = .ok (.ifCond .eq 14, 3) := by decide +kernel
theorem dJ0_equals_9ea2d_25 : decode cJ0_equals_9ea2d 25 = .ok (.aload_n 0, 1) := by decide +kernel
theorem dJ0_equals_9ea2d_26 : decode cJ0_equals_9ea2d 26 = .ok (.getfield 15, 3) := by decide +kernel
theorem dJ0_equals_9ea2d_29 : decode cJ0_equals_9ea2d 29 = .ok (.aload_n 2, 1) := by decide +kernel
theorem dJ0_equals_9ea2d_30 : decode cJ0_equals_9ea2d 30 = .ok (.getfield 15, 3) := by decide +kernel
theorem dJ0_equals_9ea2d_33 : decode cJ0_equals_9ea2d 33 = .ok (.if_icmp .ne 21, 3) := by decide +kernel
theorem dJ0_equals_9ea2d_36 : decode cJ0_equals_9ea2d 36 = .ok (.aload_n 0, 1) := by decide +kernel
theorem dJ0_equals_9ea2d_37 : decode cJ0_equals_9ea2d 37 = .ok (.getfield 9, 3) := by decide +kernel
theorem dJ0_equals_9ea2d_40 : decode cJ0_equals_9ea2d 40 = .ok (.aload_n 2, 1) := by decide +kernel
theorem dJ0_equals_9ea2d_41 : decode cJ0_equals_9ea2d 41 = .ok (.getfield 9, 3) := by decide +kernel
theorem dJ0_equals_9ea2d_44 : decode cJ0_equals_9ea2d 44 = .ok (.invokestatic 541, 3) := by decide +kernel
theorem dJ0_equals_9ea2d_47 : decode cJ0_equals_9ea2d 47 = .ok (.ifCond .eq 7, 3) := by decide +kernel
theorem dJ0_equals_9ea2d_50 : decode cJ0_equals_9ea2d 50 = .ok (.iconst 1, 1) := by decide +kernel
theorem dJ0_equals_9ea2d_51 : decode cJ0_equals_9ea2d 51 = .ok (.goto 4, 3) := by decide +kernel
theorem dJ0_equals_9ea2d_54 : decode cJ0_equals_9ea2d 54 = .ok (.iconst 0, 1) := by decide +kernel
theorem dJ0_equals_9ea2d_55 : decode cJ0_equals_9ea2d 55 = .ok (.ireturn, 1) := by decide +kernel
theorem dJ0_getBytes_840e7_0 : decode cJ0_getBytes_840e7 0 = .ok (.aload_n 0, 1) := by decide +kernel
theorem dJ0_getBytes_840e7_1 : decode cJ0_getBytes_840e7 1 = .ok (.invokevirtual 335, 3) := by decide +kernel
theorem dJ0_getBytes_840e7_4 : decode cJ0_getBytes_840e7 4 = .ok (.iload_n 3, 1) := by decide +kernel
theorem dJ0_getBytes_840e7_5 : decode cJ0_getBytes_840e7 5 = .ok (.if_icmp .ne 23, 3) := by decide +kernel
theorem dJ0_getBytes_840e7_8 : decode cJ0_getBytes_840e7 8 = .ok (.aload_n 0, 1) := by decide +kernel
theorem dJ0_getBytes_840e7_9 : decode cJ0_getBytes_840e7 9 = .ok (.getfield 9, 3) := by decide +kernel
theorem dJ0_getBytes_840e7_12 : decode cJ0_getBytes_840e7 12 = .ok (.iconst 0, 1) := by decide +kernel
theorem dJ0_getBytes_840e7_13 : decode cJ0_getBytes_840e7 13 = .ok (.aload_n 1, 1) := by decide +kernel
theorem dJ0_getBytes_840e7_14 : decode cJ0_getBytes_840e7 14 = .ok (.iload_n 2, 1) := by decide +kernel
theorem dJ0_getBytes_840e7_15 : decode cJ0_getBytes_840e7 15 = .ok (.iload_n 3, 1) := by decide +kernel
theorem dJ0_getBytes_840e7_16 : decode cJ0_getBytes_840e7 16 = .ok (.ishl, 1) := by decide +kernel
theorem dJ0_getBytes_840e7_17 : decode cJ0_getBytes_840e7 17 = .ok (.aload_n 0, 1) := by decide +kernel
theorem dJ0_getBytes_840e7_18 : decode cJ0_getBytes_840e7 18 = .ok (.getfield 9, 3) := by decide +kernel
theorem dJ0_getBytes_840e7_21 : decode cJ0_getBytes_840e7 21 = .ok (.arraylength, 1) := by decide +kernel
theorem dJ0_getBytes_840e7_22 : decode cJ0_getBytes_840e7 22 = .ok (.invokestatic 212, 3) := by decide +kernel
theorem dJ0_getBytes_840e7_25 : decode cJ0_getBytes_840e7 25 = .ok (.goto 18, 3) := by decide +kernel
theorem dJ0_getBytes_840e7_28 : decode cJ0_getBytes_840e7 28 = .ok (.aload_n 0, 1) := by decide +kernel
theorem dJ0_getBytes_840e7_29 : decode cJ0_getBytes_840e7 29 = .ok (.getfield 9, 3) := by decide +kernel
theorem dJ0_getBytes_840e7_32 : decode cJ0_getBytes_840e7 32 = .ok (.iconst 0, 1) := by decide +kernel
theorem dJ0_getBytes_840e7_33 : decode cJ0_getBytes_840e7 33 = .ok (.aload_n 1, 1) := by decide +kernel
theorem dJ0_getBytes_840e7_34 : decode cJ0_getBytes_840e7 34 = .ok (.iload_n 2, 1) := by decide +kernel
theorem dJ0_getBytes_840e7_35 : decode cJ0_getBytes_840e7 35 = .ok (.aload_n 0, 1) := by decide +kernel
theorem dJ0_getBytes_840e7_36 : decode cJ0_getBytes_840e7 36 = .ok (.getfield 9, 3) := by decide +kernel
theorem dJ0_getBytes_840e7_39 : decode cJ0_getBytes_840e7 39 = .ok (.arraylength, 1) := by decide +kernel
theorem dJ0_getBytes_840e7_40 : decode cJ0_getBytes_840e7 40 = .ok (.invokestatic 106, 3) := by decide +kernel
theorem dJ0_getBytes_840e7_43 : decode cJ0_getBytes_840e7 43 = .ok (.return_, 1) := by decide +kernel
theorem dJ0_init_db425_0 : decode cJ0_init_db425 0 = .ok (.aload_n 0, 1) := by decide +kernel
theorem dJ0_init_db425_1 : decode cJ0_init_db425 1 = .ok (.invokespecial 1, 3) := by decide +kernel
theorem dJ0_init_db425_4 : decode cJ0_init_db425 4 = .ok (.aload_n 1, 1) := by decide +kernel
theorem dJ0_init_db425_5 : decode cJ0_init_db425 5 = .ok (.invokevirtual 552, 3) := by decide +kernel
theorem dJ0_init_db425_8 : decode cJ0_init_db425 8 = .ok (.astore_n 3, 1) := by decide +kernel
theorem dJ0_init_db425_9 : decode cJ0_init_db425 9 = .ok (.aload_n 1, 1) := by decide +kernel
theorem dJ0_init_db425_10 : decode cJ0_init_db425 10 = .ok (.invokevirtual 549, 3) := by decide +kernel
theorem dJ0_init_db425_13 : decode cJ0_init_db425 13 = .ok (.istore 4, 2) := by decide +kernel
theorem dJ0_init_db425_15 : decode cJ0_init_db425 15 = .ok (.aload_n 1, 1) := by decide +kernel
theorem dJ0_init_db425_16 : decode cJ0_init_db425 16 = .ok (.invokevirtual 1047, 3) := by decide +kernel
theorem dJ0_init_db425_19 : decode cJ0_init_db425 19 = .ok (.ifCond .eq 22, 3) := by decide +kernel
theorem dJ0_init_db425_22 : decode cJ0_init_db425 22 = .ok (.aload_n 0, 1) := by decide +kernel
theorem dJ0_init_db425_23 : decode cJ0_init_db425 23 = .ok (.iconst 0, 1) := by decide +kernel
theorem dJ0_init_db425_24 : decode cJ0_init_db425 24 = .ok (.putfield 15, 3) := by decide +kernel
theorem dJ0_init_db425_27 : decode cJ0_init_db425 27 = .ok (.aload_n 0, 1) := by decide +kernel
theorem dJ0_init_db425_28 : decode cJ0_init_db425 28 = .ok (.aload_n 3, 1) := by decide +kernel
theorem dJ0_init_db425_29 : decode cJ0_init_db425 29 = .ok (.iconst 0, 1) := by decide +kernel
theorem dJ0_init_db425_30 : decode cJ0_init_db425 30 = .ok (.iload 4, 2) := by decide +kernel
theorem dJ0_init_db425_32 : decode cJ0_init_db425 32 = .ok (.invokestatic 54, 3) := by decide +kernel
theorem dJ0_init_db425_35 : decode cJ0_init_db425 35 = .ok (.putfield 9, 3) := by decide +kernel
theorem dJ0_init_db425_38 : decode cJ0_init_db425 38 = .ok (.goto 59, 3) := by decide +kernel
theorem dJ0_init_db425_41 : decode cJ0_init_db425 41 = .ok (.getstatic 38, 3) := by decide +kernel
theorem dJ0_init_db425_44 : decode cJ0_init_db425 44 = .ok (.ifCond .eq 35, 3) := by decide +kernel
theorem dJ0_init_db425_47 : decode cJ0_init_db425 47 = .ok (.aload_n 1, 1) := by decide +kernel
theorem dJ0_init_db425_48 : decode cJ0_init_db425 48 = .ok (.getfield 1048, 3) := by decide +kernel
theorem dJ0_init_db425_51 : decode cJ0_init_db425 51 = .ok (.ifCond .eq 28, 3) := by decide +kernel
theorem dJ0_init_db425_54 : decode cJ0_init_db425 54 = .ok (.aload_n 0, 1) := by decide +kernel
theorem dJ0_init_db425_55 : decode cJ0_init_db425 55 = .ok (.aload_n 3, 1) := by decide +kernel
theorem dJ0_init_db425_56 : decode cJ0_init_db425 56 = .ok (.iconst 0, 1) := by decide +kernel
theorem dJ0_init_db425_57 : decode cJ0_init_db425 57 = .ok (.iload 4, 2) := by decide +kernel
theorem dJ0_init_db425_59 : decode cJ0_init_db425 59 = .ok (.invokestatic 1051, 3) := by decide +kernel
theorem dJ0_init_db425_62 : decode cJ0_init_db425 62 = .ok (.putfield 9, 3) := by decide +kernel
theorem dJ0_init_db425_65 : decode cJ0_init_db425 65 = .ok (.aload_n 0, 1) := by decide +kernel
theorem dJ0_init_db425_66 : decode cJ0_init_db425 66 = .ok (.aload_n 0, 1) := by decide +kernel
theorem dJ0_init_db425_67 : decode cJ0_init_db425 67 = .ok (.getfield 9, 3) := by decide +kernel
theorem dJ0_init_db425_70 : decode cJ0_init_db425 70 = .ok (.iload 4, 2) := by decide +kernel
theorem dJ0_init_db425_72 : decode cJ0_init_db425 72 = .ok (.invokestatic 47, 3) := by decide +kernel
theorem dJ0_init_db425_75 : decode cJ0_init_db425 75 = .ok (.putfield 15, 3) := by decide +kernel
theorem dJ0_init_db425_78 : decode cJ0_init_db425 78 = .ok (.return_, 1) := by decide +kernel
theorem dJ0_init_db425_79 : decode cJ0_init_db425 79 = .ok (.aload_n 0, 1) := by decide +kernel
theorem dJ0_init_db425_80 : decode cJ0_init_db425 80 = .ok (.iconst 1, 1) := by decide +kernel
theorem dJ0_init_db425_81 : decode cJ0_init_db425 81 = .ok (.putfield 15, 3) := by decide +kernel
theorem dJ0_init_db425_84 : decode cJ0_init_db425 84 = .ok (.aload_n 0, 1) := by decide +kernel
theorem dJ0_init_db425_85 : decode cJ0_init_db425 85 = .ok (.aload_n 3, 1) := by decide +kernel
theorem dJ0_init_db425_86 : decode cJ0_init_db425 86 = .ok (.iconst 0, 1) := by decide +kernel
theorem dJ0_init_db425_87 : decode cJ0_init_db425 87 = .ok (.iload 4, 2) := by decide +kernel
theorem dJ0_init_db425_89 : decode cJ0_init_db425 89 = .ok (.iconst 1, 1) := by decide +kernel
theorem dJ0_init_db425_90 : decode cJ0_init_db425 90 = .ok (.ishl, 1) := by decide +kernel
theorem dJ0_init_db425_91 : decode cJ0_init_db425 91 = .ok (.invokestatic 54, 3) := by decide +kernel
theorem dJ0_init_db425_94 : decode cJ0_init_db425 94 = .ok (.putfield 9, 3) := by decide +kernel
theorem dJ0_init_db425_97 : decode cJ0_init_db425 97 = .ok (.return_, 1) := by decide +kernel
theorem dJ0_coder_7d493_0 : decode cJ0_coder_7d493 0 = .ok (.getstatic 38, 3) := by decide +kernel
theorem dJ0_coder_7d493_3 : decode cJ0_coder_7d493 3 = .ok (.ifCond .eq 10, 3) := by decide +kernel
theorem dJ0_coder_7d493_6 : decode cJ0_coder_7d493 6 = .ok (.aload_n 0, 1) := by decide +kernel
theorem dJ0_coder_7d493_7 : decode cJ0_coder_7d493 7 = .ok (.getfield 15, 3) := by decide +kernel
theorem dJ0_coder_7d493_10 : decode cJ0_coder_7d493 10 = .ok (.goto 4, 3) := by decide +kernel
theorem dJ0_coder_7d493_13 : decode cJ0_coder_7d493 13 = .ok (.iconst 1, 1) := by decide +kernel
theorem dJ0_coder_7d493_14 : decode cJ0_coder_7d493 14 = .ok (.ireturn, 1) := by decide +kernel
theorem dJ0_isLatin1_aae02_0 : decode cJ0_isLatin1_aae02 0 = .ok (.getstatic 38, 3) := by decide +kernel
theorem dJ0_isLatin1_aae02_3 : decode cJ0_isLatin1_aae02 3 = .ok (.ifCond .eq 14, 3) := by decide +kernel
theorem dJ0_isLatin1_aae02_6 : decode cJ0_isLatin1_aae02 6 = .ok (.aload_n 0, 1) := by decide +kernel
theorem dJ0_isLatin1_aae02_7 : decode cJ0_isLatin1_aae02 7 = .ok (.getfield 15, 3) := by decide +kernel
theorem dJ0_isLatin1_aae02_10 : decode cJ0_isLatin1_aae02 10 = .ok (.ifCond .ne 7, 3) := by decide +kernel
theorem dJ0_isLatin1_aae02_13 : decode cJ0_isLatin1_aae02 13 = .ok (.iconst 1, 1) := by decide +kernel
theorem dJ0_isLatin1_aae02_14 : decode cJ0_isLatin1_aae02 14 = .ok (.goto 4, 3) := by decide +kernel
theorem dJ0_isLatin1_aae02_17 : decode cJ0_isLatin1_aae02 17 = .ok (.iconst 0, 1) := by decide +kernel
theorem dJ0_isLatin1_aae02_18 : decode cJ0_isLatin1_aae02 18 = .ok (.ireturn, 1) := by decide +kernel
theorem dJ0_checkIndex_df160_0 : decode cJ0_checkIndex_df160 0 = .ok (.iload_n 0, 1) := by decide +kernel
theorem dJ0_checkIndex_df160_1 : decode cJ0_checkIndex_df160 1 = .ok (.iload_n 1, 1) := by decide +kernel
theorem dJ0_checkIndex_df160_2 : decode cJ0_checkIndex_df160 2 = .ok (.getstatic 1053, 3) := by decide +kernel
theorem dJ0_checkIndex_df160_5 : decode cJ0_checkIndex_df160 5 = .ok (.invokestatic 1059, 3) := by decide +kernel
theorem dJ0_checkIndex_df160_8 : decode cJ0_checkIndex_df160 8 = .ok (.pop, 1) := by decide +kernel
theorem dJ0_checkIndex_df160_9 : decode cJ0_checkIndex_df160 9 = .ok (.return_, 1) := by decide +kernel
theorem dJ0_checkBoundsOffCount_cabcc_0 : decode cJ0_checkBoundsOffCount_cabcc 0 = .ok (.iload_n 0, 1) := by decide +kernel
theorem dJ0_checkBoundsOffCount_cabcc_1 : decode cJ0_checkBoundsOffCount_cabcc 1 = .ok (.iload_n 1, 1) := by decide +kernel
theorem dJ0_checkBoundsOffCount_cabcc_2 : decode cJ0_checkBoundsOffCount_cabcc 2 = .ok (.iload_n 2, 1) := by decide +kernel
theorem dJ0_checkBoundsOffCount_cabcc_3 : decode cJ0_checkBoundsOffCount_cabcc 3 = .ok (.getstatic 1053, 3) := by decide +kernel
theorem dJ0_checkBoundsOffCount_cabcc_6 : decode cJ0_checkBoundsOffCount_cabcc 6 = .ok (.invokestatic 1065, 3) := by decide +kernel
theorem dJ0_checkBoundsOffCount_cabcc_9 : decode cJ0_checkBoundsOffCount_cabcc 9 = .ok (.ireturn, 1) := by decide +kernel
theorem dJ0_checkBoundsBeginEnd_23922_0 : decode cJ0_checkBoundsBeginEnd_23922 0 = .ok (.iload_n 0, 1) := by decide +kernel
theorem dJ0_checkBoundsBeginEnd_23922_1 : decode cJ0_checkBoundsBeginEnd_23922 1 = .ok (.iload_n 1, 1) := by decide +kernel
theorem dJ0_checkBoundsBeginEnd_23922_2 : decode cJ0_checkBoundsBeginEnd_23922 2 = .ok (.iload_n 2, 1) := by decide +kernel
theorem dJ0_checkBoundsBeginEnd_23922_3 : decode cJ0_checkBoundsBeginEnd_23922 3 = .ok (.getstatic 1053, 3) := by decide +kernel
theorem dJ0_checkBoundsBeginEnd_23922_6 : decode cJ0_checkBoundsBeginEnd_23922 6 = .ok (.invokestatic 1062, 3) := by decide +kernel
theorem dJ0_checkBoundsBeginEnd_23922_9 : decode cJ0_checkBoundsBeginEnd_23922 9 = .ok (.pop, 1) := by decide +kernel
theorem dJ0_checkBoundsBeginEnd_23922_10 : decode cJ0_checkBoundsBeginEnd_23922 10 = .ok (.return_, 1) := by decide +kernel
theorem dJ4_init_da8c8_0 : decode cJ4_init_da8c8 0 = .ok (.aload_n 0, 1) := by decide +kernel
theorem dJ4_init_da8c8_1 : decode cJ4_init_da8c8 1 = .ok (.bipush 16, 2) := by decide +kernel
theorem dJ4_init_da8c8_3 : decode cJ4_init_da8c8 3 = .ok (.invokespecial 1, 3) := by decide +kernel
theorem dJ4_init_da8c8_6 : decode cJ4_init_da8c8 6 = .ok (.return_, 1) := by decide +kernel
theorem dJ4_init_a7421_0 : decode cJ4_init_a7421 0 = .ok (.aload_n 0, 1) := by decide +kernel
theorem dJ4_init_a7421_1 : decode cJ4_init_a7421 1 = .ok (.aload_n 1, 1) := by decide +kernel
theorem dJ4_init_a7421_2 : decode cJ4_init_a7421 2 = .ok (.invokespecial 7, 3) := by decide +kernel
theorem dJ4_init_a7421_5 : decode cJ4_init_a7421 5 = .ok (.return_, 1) := by decide +kernel
theorem dJ4_append_15ec4_0 : decode cJ4_append_15ec4 0 = .ok (.aload_n 0, 1) := by decide +kernel
theorem dJ4_append_15ec4_1 : decode cJ4_append_15ec4 1 = .ok (.aload_n 1, 1) := by decide +kernel
theorem dJ4_append_15ec4_2 : decode cJ4_append_15ec4 2 = .ok (.invokespecial 29, 3) := by decide +kernel
theorem dJ4_append_15ec4_5 : decode cJ4_append_15ec4 5 = .ok (.pop, 1) := by decide +kernel
theorem dJ4_append_15ec4_6 : decode cJ4_append_15ec4 6 = .ok (.aload_n 0, 1) := by decide +kernel
theorem dJ4_append_15ec4_7 : decode cJ4_append_15ec4 7 = .ok (.areturn, 1) := by decide +kernel
theorem dJ4_append_cf468_0 : decode cJ4_append_cf468 0 = .ok (.aload_n 0, 1) := by decide +kernel
theorem dJ4_append_cf468_1 : decode cJ4_append_cf468 1 = .ok (.iload_n 1, 1) := by decide +kernel
theorem dJ4_append_cf468_2 : decode cJ4_append_cf468 2 = .ok (.invokespecial 50, 3) := by decide +kernel
theorem dJ4_append_cf468_5 : decode cJ4_append_cf468 5 = .ok (.pop, 1) := by decide +kernel
theorem dJ4_append_cf468_6 : decode cJ4_append_cf468 6 = .ok (.aload_n 0, 1) := by decide +kernel
theorem dJ4_append_cf468_7 : decode cJ4_append_cf468 7 = .ok (.areturn, 1) := by decide +kernel
theorem dJ4_append_bf812_0 : decode cJ4_append_bf812 0 = .ok (.aload_n 0, 1) := by decide +kernel
theorem dJ4_append_bf812_1 : decode cJ4_append_bf812 1 = .ok (.iload_n 1, 1) := by decide +kernel
theorem dJ4_append_bf812_2 : decode cJ4_append_bf812 2 = .ok (.invokespecial 53, 3) := by decide +kernel
theorem dJ4_append_bf812_5 : decode cJ4_append_bf812 5 = .ok (.pop, 1) := by decide +kernel
theorem dJ4_append_bf812_6 : decode cJ4_append_bf812 6 = .ok (.aload_n 0, 1) := by decide +kernel
theorem dJ4_append_bf812_7 : decode cJ4_append_bf812 7 = .ok (.areturn, 1) := by decide +kernel
theorem dJ4_toString_0e30d_0 : decode cJ4_toString_0e30d 0 = .ok (.new 18, 3) := by decide +kernel
theorem dJ4_toString_0e30d_3 : decode cJ4_toString_0e30d 3 = .ok (.dup, 1) := by decide +kernel
theorem dJ4_toString_0e30d_4 : decode cJ4_toString_0e30d 4 = .ok (.aload_n 0, 1) := by decide +kernel
theorem dJ4_toString_0e30d_5 : decode cJ4_toString_0e30d 5 = .ok (.invokespecial 137, 3) := by decide +kernel
theorem dJ4_toString_0e30d_8 : decode cJ4_toString_0e30d 8 = .ok (.areturn, 1) := by decide +kernel
theorem dJ4_append_cf1ce_0 : decode cJ4_append_cf1ce 0 = .ok (.aload_n 0, 1) := by decide +kernel
theorem dJ4_append_cf1ce_1 : decode cJ4_append_cf1ce 1 = .ok (.aload_n 1, 1) := by decide +kernel
theorem dJ4_append_cf1ce_2 : decode cJ4_append_cf1ce 2 = .ok (.invokevirtual 23, 3) := by decide +kernel
theorem dJ4_append_cf1ce_5 : decode cJ4_append_cf1ce 5 = .ok (.areturn, 1) := by decide +kernel
theorem dJ4_length_8abf5_0 : decode cJ4_length_8abf5 0 = .ok (.aload_n 0, 1) := by decide +kernel
theorem dJ4_length_8abf5_1 : decode cJ4_length_8abf5 1 = .ok (.invokespecial 343, 3) := by decide +kernel
theorem dJ4_length_8abf5_4 : decode cJ4_length_8abf5 4 = .ok (.ireturn, 1) := by decide +kernel
theorem dJ1_charAt_3b067_0 : decode cJ1_charAt_3b067 0 = .ok (.iload_n 1, 1) := by decide +kernel
theorem dJ1_charAt_3b067_1 : decode cJ1_charAt_3b067 1 = .ok (.aload_n 0, 1) := by decide +kernel
theorem dJ1_charAt_3b067_2 : decode cJ1_charAt_3b067 2 = .ok (.arraylength, 1) := by decide +kernel
theorem dJ1_charAt_3b067_3 : decode cJ1_charAt_3b067 3 = .ok (.invokestatic 9, 3) := by decide +kernel
theorem dJ1_charAt_3b067_6 : decode cJ1_charAt_3b067 6 = .ok (.aload_n 0, 1) := by decide +kernel
theorem dJ1_charAt_3b067_7 : decode cJ1_charAt_3b067 7 = .ok (.iload_n 1, 1) := by decide +kernel
theorem dJ1_charAt_3b067_8 : decode cJ1_charAt_3b067 8 = .ok (.baload, 1) := by decide +kernel
theorem dJ1_charAt_3b067_9 : decode cJ1_charAt_3b067 9 = .ok (.sipush 255, 3) := by decide +kernel
theorem dJ1_charAt_3b067_12 : decode cJ1_charAt_3b067 12 = .ok (.iand, 1) := by decide +kernel
theorem dJ1_charAt_3b067_13 : decode cJ1_charAt_3b067 13 = .ok (.i2c, 1) := by decide +kernel
theorem dJ1_charAt_3b067_14 : decode cJ1_charAt_3b067 14 = .ok (.ireturn, 1) := by decide +kernel
theorem dJ1_canEncode_fc78d_0 : decode cJ1_canEncode_fc78d 0 = .ok (.iload_n 0, 1) := by decide +kernel
theorem dJ1_canEncode_fc78d_1 : decode cJ1_canEncode_fc78d 1 = .ok (.sipush 255, 3) := by decide +kernel
theorem dJ1_canEncode_fc78d_4 : decode cJ1_canEncode_fc78d 4 = .ok (.if_icmp .gt 7, 3) := by decide +kernel
theorem dJ1_canEncode_fc78d_7 : decode cJ1_canEncode_fc78d 7 = .ok (.iconst 1, 1) := by decide +kernel
theorem dJ1_canEncode_fc78d_8 : decode cJ1_canEncode_fc78d 8 = .ok (.goto 4, 3) := by decide +kernel
theorem dJ1_canEncode_fc78d_11 : decode cJ1_canEncode_fc78d 11 = .ok (.iconst 0, 1) := by decide +kernel
theorem dJ1_canEncode_fc78d_12 : decode cJ1_canEncode_fc78d 12 = .ok (.ireturn, 1) := by decide +kernel
theorem dJ1_equals_b5fdf_0 : decode cJ1_equals_b5fdf 0 = .ok (.aload_n 0, 1) := by decide +kernel
theorem dJ1_equals_b5fdf_1 : decode cJ1_equals_b5fdf 1 = .ok (.arraylength, 1) := by decide +kernel
theorem dJ1_equals_b5fdf_2 : decode cJ1_equals_b5fdf 2 = .ok (.aload_n 1, 1) := by decide +kernel
theorem dJ1_equals_b5fdf_3 : decode cJ1_equals_b5fdf 3 = .ok (.arraylength, 1) := by decide +kernel
theorem dJ1_equals_b5fdf_4 : decode cJ1_equals_b5fdf 4 = .ok (.if_icmp .ne 30, 3) := by decide +kernel
theorem dJ1_equals_b5fdf_7 : decode cJ1_equals_b5fdf 7 = .ok (.iconst 0, 1) := by decide +kernel
theorem dJ1_equals_b5fdf_8 : decode cJ1_equals_b5fdf 8 = .ok (.istore_n 2, 1) := by decide +kernel
theorem dJ1_equals_b5fdf_9 : decode cJ1_equals_b5fdf 9 = .ok (.iload_n 2, 1) := by decide +kernel
theorem dJ1_equals_b5fdf_10 : decode cJ1_equals_b5fdf 10 = .ok (.aload_n 0, 1) := by decide +kernel
theorem dJ1_equals_b5fdf_11 : decode cJ1_equals_b5fdf 11 = .ok (.arraylength, 1) := by decide +kernel
theorem dJ1_equals_b5fdf_12 : decode cJ1_equals_b5fdf 12 = .ok (.if_icmp .ge 20, 3) := by decide +kernel
theorem dJ1_equals_b5fdf_15 : decode cJ1_equals_b5fdf 15 = .ok (.aload_n 0, 1) := by decide +kernel
theorem dJ1_equals_b5fdf_16 : decode cJ1_equals_b5fdf 16 = .ok (.iload_n 2, 1) := by decide +kernel
theorem dJ1_equals_b5fdf_17 : decode cJ1_equals_b5fdf 17 = .ok (.baload, 1) := by decide +kernel
theorem dJ1_equals_b5fdf_18 : decode cJ1_equals_b5fdf 18 = .ok (.aload_n 1, 1) := by decide +kernel
theorem dJ1_equals_b5fdf_19 : decode cJ1_equals_b5fdf 19 = .ok (.iload_n 2, 1) := by decide +kernel
theorem dJ1_equals_b5fdf_20 : decode cJ1_equals_b5fdf 20 = .ok (.baload, 1) := by decide +kernel
theorem dJ1_equals_b5fdf_21 : decode cJ1_equals_b5fdf 21 = .ok (.if_icmp .eq 5, 3) := by decide +kernel
theorem dJ1_equals_b5fdf_24 : decode cJ1_equals_b5fdf 24 = .ok (.iconst 0, 1) := by decide +kernel
theorem dJ1_equals_b5fdf_25 : decode cJ1_equals_b5fdf 25 = .ok (.ireturn, 1) := by decide +kernel
theorem dJ1_equals_b5fdf_26 : decode cJ1_equals_b5fdf 26 = .ok (.iinc 2 1, 3) := by decide +kernel
theorem dJ1_equals_b5fdf_29 : decode cJ1_equals_b5fdf 29 = .ok (.goto (-20), 3) := by decide +kernel
theorem dJ1_equals_b5fdf_32 : decode cJ1_equals_b5fdf 32 = .ok (.iconst 1, 1) := by decide +kernel
theorem dJ1_equals_b5fdf_33 : decode cJ1_equals_b5fdf 33 = .ok (.ireturn, 1) := by decide +kernel
theorem dJ1_equals_b5fdf_34 : decode cJ1_equals_b5fdf 34 = .ok (.iconst 0, 1) := by decide +kernel
theorem dJ1_equals_b5fdf_35 : decode cJ1_equals_b5fdf 35 = .ok (.ireturn, 1) := by decide +kernel
theorem dJ1_inflate_0e8fd_0 : decode cJ1_inflate_0e8fd 0 = .ok (.aload_n 0, 1) := by decide +kernel
theorem dJ1_inflate_0e8fd_1 : decode cJ1_inflate_0e8fd 1 = .ok (.iload_n 1, 1) := by decide +kernel
theorem dJ1_inflate_0e8fd_2 : decode cJ1_inflate_0e8fd 2 = .ok (.aload_n 2, 1) := by decide +kernel
theorem dJ1_inflate_0e8fd_3 : decode cJ1_inflate_0e8fd 3 = .ok (.iload_n 3, 1) := by decide +kernel
theorem dJ1_inflate_0e8fd_4 : decode cJ1_inflate_0e8fd 4 = .ok (.iload 4, 2) := by decide +kernel
theorem dJ1_inflate_0e8fd_6 : decode cJ1_inflate_0e8fd 6 = .ok (.invokestatic 240, 3) := by decide +kernel
theorem dJ1_inflate_0e8fd_9 : decode cJ1_inflate_0e8fd 9 = .ok (.return_, 1) := by decide +kernel
theorem dJ2_newBytesFor_77867_0 : decode cJ2_newBytesFor_77867 0 = .ok (.iload_n 0, 1) := by decide +kernel
theorem dJ2_newBytesFor_77867_1 : decode cJ2_newBytesFor_77867 1 = .ok (.invokestatic 11, 3) := by decide +kernel
theorem dJ2_newBytesFor_77867_4 : decode cJ2_newBytesFor_77867 4 = .ok (.newarray .byte, 2) := by decide +kernel
theorem dJ2_newBytesFor_77867_6 : decode cJ2_newBytesFor_77867 6 = .ok (.areturn, 1) := by decide +kernel
theorem dJ2_newBytesLength_0f7a4_0 : decode cJ2_newBytesLength_0f7a4 0 = .ok (.iload_n 0, 1) := by decide +kernel
theorem dJ2_newBytesLength_0f7a4_1 : decode cJ2_newBytesLength_0f7a4 1 = .ok (.ifCond .ge 11, 3) := by decide +kernel
theorem dJ2_newBytesLength_0f7a4_4 : decode cJ2_newBytesLength_0f7a4 4 = .ok (.new 17, 3) := by decide +kernel
theorem dJ2_newBytesLength_0f7a4_7 : decode cJ2_newBytesLength_0f7a4 7 = .ok (.dup, 1) := by decide +kernel
theorem dJ2_newBytesLength_0f7a4_8 : decode cJ2_newBytesLength_0f7a4 8 = .ok (.invokespecial 19, 3) := by decide +kernel
theorem dJ2_newBytesLength_0f7a4_11 : decode cJ2_newBytesLength_0f7a4 11 = .ok (.athrow, 1) := by decide +kernel
theorem dJ2_newBytesLength_0f7a4_12 : decode cJ2_newBytesLength_0f7a4 12 = .ok (.iload_n 0, 1) := by decide +kernel
theorem dJ2_newBytesLength_0f7a4_13 : decode cJ2_newBytesLength_0f7a4 13 = .ok (.ldc 20, 2) := by decide +kernel
theorem dJ2_newBytesLength_0f7a4_15 : decode cJ2_newBytesLength_0f7a4 15 = .ok (.if_icmp .lt 40, 3) := by decide +kernel
theorem dJ2_newBytesLength_0f7a4_18 : decode cJ2_newBytesLength_0f7a4 18 = .ok (.new 21, 3) := by decide +kernel
theorem dJ2_newBytesLength_0f7a4_21 : decode cJ2_newBytesLength_0f7a4 21 = .ok (.dup, 1) := by decide +kernel
theorem dJ2_newBytesLength_0f7a4_22 : decode cJ2_newBytesLength_0f7a4 22 = .ok (.new 23, 3) := by decide +kernel
theorem dJ2_newBytesLength_0f7a4_25 : decode cJ2_newBytesLength_0f7a4 25 = .ok (.dup, 1) := by decide +kernel
theorem dJ2_newBytesLength_0f7a4_26 : decode cJ2_newBytesLength_0f7a4 26 = .ok (.invokespecial 25, 3) := by decide +kernel
theorem dJ2_newBytesLength_0f7a4_29 : decode cJ2_newBytesLength_0f7a4 29 = .ok (.ldc 26, 2) := by decide +kernel
theorem dJ2_newBytesLength_0f7a4_31 : decode cJ2_newBytesLength_0f7a4 31 = .ok (.invokevirtual 28, 3) := by decide +kernel
theorem dJ2_newBytesLength_0f7a4_34 : decode cJ2_newBytesLength_0f7a4 34 = .ok (.iload_n 0, 1) := by decide +kernel
theorem dJ2_newBytesLength_0f7a4_35 : decode cJ2_newBytesLength_0f7a4 35 = .ok (.invokevirtual 32, 3) := by decide +kernel
theorem dJ2_newBytesLength_0f7a4_38 : decode cJ2_newBytesLength_0f7a4 38 = .ok (.ldc 35, 2) := by decide +kernel
theorem dJ2_newBytesLength_0f7a4_40 : decode cJ2_newBytesLength_0f7a4 40 = .ok (.invokevirtual 28, 3) := by decide +kernel
theorem dJ2_newBytesLength_0f7a4_43 : decode cJ2_newBytesLength_0f7a4 43 = .ok (.ldc 20, 2) := by decide +kernel
theorem dJ2_newBytesLength_0f7a4_45 : decode cJ2_newBytesLength_0f7a4 45 = .ok (.invokevirtual 32, 3) := by decide +kernel
theorem dJ2_newBytesLength_0f7a4_48 : decode cJ2_newBytesLength_0f7a4 48 = .ok (.invokevirtual 37, 3) := by decide +kernel
theorem dJ2_newBytesLength_0f7a4_51 : decode cJ2_newBytesLength_0f7a4 51 = .ok (.invokespecial 41, 3) := by decide +kernel
theorem dJ2_newBytesLength_0f7a4_54 : decode cJ2_newBytesLength_0f7a4 54 = .ok (.athrow, 1) := by decide +kernel
theorem dJ2_newBytesLength_0f7a4_55 : decode cJ2_newBytesLength_0f7a4 55 = .ok (.iload_n 0, 1) := by decide +kernel
theorem dJ2_newBytesLength_0f7a4_56 : decode cJ2_newBytesLength_0f7a4 56 = .ok (.iconst 1, 1) := by decide +kernel
theorem dJ2_newBytesLength_0f7a4_57 : decode cJ2_newBytesLength_0f7a4 57 = .ok (.ishl, 1) := by decide +kernel
theorem dJ2_newBytesLength_0f7a4_58 : decode cJ2_newBytesLength_0f7a4 58 = .ok (.ireturn, 1) := by decide +kernel
theorem dJ2_putChar_b72d1_0 : decode cJ2_putChar_b72d1 0 = .ok (.getstatic 44, 3) := by decide +kernel
theorem dJ2_putChar_b72d1_3 : decode cJ2_putChar_b72d1 3 = .ok (.ifCond .ne 25, 3) := by decide +kernel
theorem dJ2_putChar_b72d1_6 : decode cJ2_putChar_b72d1 6 = .ok (.iload_n 1, 1) := by decide +kernel
theorem dJ2_putChar_b72d1_7 : decode cJ2_putChar_b72d1 7 = .ok (.ifCond .lt 11, 3) := by decide +kernel
theorem dJ2_putChar_b72d1_10 : decode cJ2_putChar_b72d1 10 = .ok (.iload_n 1, 1) := by decide +kernel
theorem dJ2_putChar_b72d1_11 : decode cJ2_putChar_b72d1 11 = .ok (.aload_n 0, 1) := by decide +kernel
theorem dJ2_putChar_b72d1_12 : decode cJ2_putChar_b72d1 12 = .ok (.invokestatic 48, 3) := by decide +kernel
theorem dJ2_putChar_b72d1_15 : decode cJ2_putChar_b72d1 15 = .ok (.if_icmp .lt 13, 3) := by decide +kernel
theorem dJ2_putChar_b72d1_18 : decode cJ2_putChar_b72d1 18 = .ok (.new 52, 3) := by decide +kernel
theorem dJ2_putChar_b72d1_21 : decode cJ2_putChar_b72d1 21 = .ok (.dup, 1) := by decide +kernel
theorem dJ2_putChar_b72d1_22 : decode cJ2_putChar_b72d1 22 = .ok (.ldc 54, 2) := by decide +kernel
theorem dJ2_putChar_b72d1_24 : decode cJ2_putChar_b72d1 24 = .ok (.invokespecial 56, 3) := by decide +kernel
theorem dJ2_putChar_b72d1_27 : decode cJ2_putChar_b72d1 27 = .ok (.athrow, 1) := by decide +kernel
theorem dJ2_putChar_b72d1_28 : decode cJ2_putChar_b72d1 28 = .ok (.iload_n 1, 1) := by decide +kernel
theorem dJ2_putChar_b72d1_29 : decode cJ2_putChar_b72d1 29 = .ok (.iconst 1, 1) := by decide +kernel
theorem dJ2_putChar_b72d1_30 : decode cJ2_putChar_b72d1 30 = .ok (.ishl, 1) := by decide +kernel
theorem dJ2_putChar_b72d1_31 : decode cJ2_putChar_b72d1 31 = .ok (.istore_n 1, 1) := by decide +kernel
theorem dJ2_putChar_b72d1_32 : decode cJ2_putChar_b72d1 32 = .ok (.aload_n 0, 1) := by decide +kernel
theorem dJ2_putChar_b72d1_33 : decode cJ2_putChar_b72d1 33 = .ok (.iload_n 1, 1) := by decide +kernel
theorem dJ2_putChar_b72d1_34 : decode cJ2_putChar_b72d1 34 = .ok (.iinc 1 1, 3) := by decide +kernel
theorem dJ2_putChar_b72d1_37 : decode cJ2_putChar_b72d1 37 = .ok (.iload_n 2, 1) := by decide +kernel
theorem dJ2_putChar_b72d1_38 : decode cJ2_putChar_b72d1 38 = .ok (.getstatic 59, 3) := by decide +kernel
theorem dJ2_putChar_b72d1_41 : decode cJ2_putChar_b72d1 41 = .ok (.ishr, 1) := by decide +kernel
theorem dJ2_putChar_b72d1_42 : decode cJ2_putChar_b72d1 42 = .ok (.i2b, 1) := by decide +kernel
theorem dJ2_putChar_b72d1_43 : decode cJ2_putChar_b72d1 43 = .ok (.bastore, 1) := by decide +kernel
theorem dJ2_putChar_b72d1_44 : decode cJ2_putChar_b72d1 44 = .ok (.aload_n 0, 1) := by decide +kernel
theorem dJ2_putChar_b72d1_45 : decode cJ2_putChar_b72d1 45 = .ok (.iload_n 1, 1) := by decide +kernel
theorem dJ2_putChar_b72d1_46 : decode cJ2_putChar_b72d1 46 = .ok (.iload_n 2, 1) := by decide +kernel
theorem dJ2_putChar_b72d1_47 : decode cJ2_putChar_b72d1 47 = .ok (.getstatic 63, 3) := by decide +kernel
theorem dJ2_putChar_b72d1_50 : decode cJ2_putChar_b72d1 50 = .ok (.ishr, 1) := by decide +kernel
theorem dJ2_putChar_b72d1_51 : decode cJ2_putChar_b72d1 51 = .ok (.i2b, 1) := by decide +kernel
theorem dJ2_putChar_b72d1_52 : decode cJ2_putChar_b72d1 52 = .ok (.bastore, 1) := by decide +kernel
theorem dJ2_putChar_b72d1_53 : decode cJ2_putChar_b72d1 53 = .ok (.return_, 1) := by decide +kernel
theorem dJ2_getChar_3b067_0 : decode cJ2_getChar_3b067 0 = .ok (.getstatic 44, 3) := by decide +kernel
theorem dJ2_getChar_3b067_3 : decode cJ2_getChar_3b067 3 = .ok (.ifCond .ne 25, 3) := by decide +kernel
theorem dJ2_getChar_3b067_6 : decode cJ2_getChar_3b067 6 = .ok (.iload_n 1, 1) := by decide +kernel
theorem dJ2_getChar_3b067_7 : decode cJ2_getChar_3b067 7 = .ok (.ifCond .lt 11, 3) := by decide +kernel
theorem dJ2_getChar_3b067_10 : decode cJ2_getChar_3b067 10 = .ok (.iload_n 1, 1) := by decide +kernel
theorem dJ2_getChar_3b067_11 : decode cJ2_getChar_3b067 11 = .ok (.aload_n 0, 1) := by decide +kernel
theorem dJ2_getChar_3b067_12 : decode cJ2_getChar_3b067 12 = .ok (.invokestatic 48, 3) := by decide +kernel
theorem dJ2_getChar_3b067_15 : decode cJ2_getChar_3b067 15 = .ok (.if_icmp .lt 13, 3) := by decide +kernel
theorem dJ2_getChar_3b067_18 : decode cJ2_getChar_3b067 18 = .ok (.new 52, 3) := by decide +kernel
theorem dJ2_getChar_3b067_21 : decode cJ2_getChar_3b067 21 = .ok (.dup, 1) := by decide +kernel
theorem dJ2_getChar_3b067_22 : decode cJ2_getChar_3b067 22 = .ok (.ldc 54, 2) := by decide +kernel
theorem dJ2_getChar_3b067_24 : decode cJ2_getChar_3b067 24 = .ok (.invokespecial 56, 3) := by decide +kernel
theorem dJ2_getChar_3b067_27 : decode cJ2_getChar_3b067 27 = .ok (.athrow, 1) := by decide +kernel
theorem dJ2_getChar_3b067_28 : decode cJ2_getChar_3b067 28 = .ok (.iload_n 1, 1) := by decide +kernel
theorem dJ2_getChar_3b067_29 : decode cJ2_getChar_3b067 29 = .ok (.iconst 1, 1) := by decide +kernel
theorem dJ2_getChar_3b067_30 : decode cJ2_getChar_3b067 30 = .ok (.ishl, 1) := by decide +kernel
theorem dJ2_getChar_3b067_31 : decode cJ2_getChar_3b067 31 = .ok (.istore_n 1, 1) := by decide +kernel
theorem dJ2_getChar_3b067_32 : decode cJ2_getChar_3b067 32 = .ok (.aload_n 0, 1) := by decide +kernel
theorem dJ2_getChar_3b067_33 : decode cJ2_getChar_3b067 33 = .ok (.iload_n 1, 1) := by decide +kernel
theorem dJ2_getChar_3b067_34 : decode cJ2_getChar_3b067 34 = .ok (.iinc 1 1, 3) := by decide +kernel
theorem dJ2_getChar_3b067_37 : decode cJ2_getChar_3b067 37 = .ok (.baload, 1) := by decide +kernel
theorem dJ2_getChar_3b067_38 : decode cJ2_getChar_3b067 38 = .ok (.sipush 255, 3) := by decide +kernel
theorem dJ2_getChar_3b067_41 : decode cJ2_getChar_3b067 41 = .ok (.iand, 1) := by decide +kernel
theorem dJ2_getChar_3b067_42 : decode cJ2_getChar_3b067 42 = .ok (.getstatic 59, 3) := by decide +kernel
theorem dJ2_getChar_3b067_45 : decode cJ2_getChar_3b067 45 = .ok (.ishl, 1) := by decide +kernel
theorem dJ2_getChar_3b067_46 : decode cJ2_getChar_3b067 46 = .ok (.aload_n 0, 1) := by decide +kernel
theorem dJ2_getChar_3b067_47 : decode cJ2_getChar_3b067 47 = .ok (.iload_n 1, 1) := by decide +kernel
theorem dJ2_getChar_3b067_48 : decode cJ2_getChar_3b067 48 = .ok (.baload, 1) := by decide +kernel
theorem dJ2_getChar_3b067_49 : decode cJ2_getChar_3b067 49 = .ok (.sipush 255, 3) := by decide +kernel
theorem dJ2_getChar_3b067_52 : decode cJ2_getChar_3b067 52 = .ok (.iand, 1) := by decide +kernel
theorem dJ2_getChar_3b067_53 : decode cJ2_getChar_3b067 53 = .ok (.getstatic 63, 3) := by decide +kernel
theorem dJ2_getChar_3b067_56 : decode cJ2_getChar_3b067 56 = .ok (.ishl, 1) := by decide +kernel
theorem dJ2_getChar_3b067_57 : decode cJ2_getChar_3b067 57 = .ok (.ior, 1) := by decide +kernel
theorem dJ2_getChar_3b067_58 : decode cJ2_getChar_3b067 58 = .ok (.i2c, 1) := by decide +kernel
theorem dJ2_getChar_3b067_59 : decode cJ2_getChar_3b067 59 = .ok (.ireturn, 1) := by decide +kernel
theorem dJ2_length_9d52b_0 : decode cJ2_length_9d52b 0 = .ok (.aload_n 0, 1) := by decide +kernel
theorem dJ2_length_9d52b_1 : decode cJ2_length_9d52b 1 = .ok (.arraylength, 1) := by decide +kernel
theorem dJ2_length_9d52b_2 : decode cJ2_length_9d52b 2 = .ok (.iconst 1, 1) := by decide +kernel
theorem dJ2_length_9d52b_3 : decode cJ2_length_9d52b 3 = .ok (.ishr, 1) := by decide +kernel
theorem dJ2_length_9d52b_4 : decode cJ2_length_9d52b 4 = .ok (.ireturn, 1) := by decide +kernel
theorem dJ2_coderFromArrayLen_85cad_0 : decode cJ2_coderFromArrayLen_85cad 0 = .ok (.iload_n 1, 1) := by decide +kernel
theorem dJ2_coderFromArrayLen_85cad_1 : decode cJ2_coderFromArrayLen_85cad 1 = .ok (.aload_n 0, 1) := by decide +kernel
theorem dJ2_coderFromArrayLen_85cad_2 : decode cJ2_coderFromArrayLen_85cad 2 = .ok (.arraylength, 1) := by decide +kernel
theorem dJ2_coderFromArrayLen_85cad_3 : decode cJ2_coderFromArrayLen_85cad 3 = .ok (.isub, 1) := by decide +kernel
theorem dJ2_coderFromArrayLen_85cad_4 : decode cJ2_coderFromArrayLen_85cad 4 = .ok (.bipush 31, 2) := by decide +kernel
theorem dJ2_coderFromArrayLen_85cad_6 : decode cJ2_coderFromArrayLen_85cad 6 = .ok (.iushr, 1) := by decide +kernel
theorem dJ2_coderFromArrayLen_85cad_7 : decode cJ2_coderFromArrayLen_85cad 7 = .ok (.i2b, 1) := by decide +kernel
theorem dJ2_coderFromArrayLen_85cad_8 : decode cJ2_coderFromArrayLen_85cad 8 = .ok (.ireturn, 1) := by decide +kernel
theorem dJ2_compress_39247_0 : decode cJ2_compress_39247 0 = .ok (.iload_n 2, 1) := by decide +kernel
theorem dJ2_compress_39247_1 : decode cJ2_compress_39247 1 = .ok (.newarray .byte, 2) := by decide +kernel
theorem dJ2_compress_39247_3 : decode cJ2_compress_39247 3 = .ok (.astore_n 3, 1) := by decide +kernel
theorem dJ2_compress_39247_4 : decode cJ2_compress_39247 4 = .ok (.aload_n 0, 1) := by decide +kernel
theorem dJ2_compress_39247_5 : decode cJ2_compress_39247 5 = .ok (.iload_n 1, 1) := by decide +kernel
theorem dJ2_compress_39247_6 : decode cJ2_compress_39247 6 = .ok (.aload_n 3, 1) := by decide +kernel
theorem dJ2_compress_39247_7 : decode cJ2_compress_39247 7 = .ok (.iconst 0, 1) := by decide +kernel
theorem dJ2_compress_39247_8 : decode cJ2_compress_39247 8 = .ok (.iload_n 2, 1) := by decide +kernel
theorem dJ2_compress_39247_9 : decode cJ2_compress_39247 9 = .ok (.invokestatic 123, 3) := by decide +kernel
theorem dJ2_compress_39247_12 : decode cJ2_compress_39247 12 = .ok (.istore 4, 2) := by decide +kernel
theorem dJ2_compress_39247_14 : decode cJ2_compress_39247 14 = .ok (.iload 4, 2) := by decide +kernel
theorem dJ2_compress_39247_16 : decode cJ2_compress_39247 16 = .ok (.iload_n 2, 1) := by decide +kernel
theorem dJ2_compress_39247_17 : decode cJ2_compress_39247 17 = .ok (.if_icmp .eq 47, 3) := by decide +kernel
theorem dJ2_compress_39247_20 : decode cJ2_compress_39247 20 = .ok (.aload_n 0, 1) := by decide +kernel
theorem dJ2_compress_39247_21 : decode cJ2_compress_39247 21 = .ok (.iload_n 1, 1) := by decide +kernel
theorem dJ2_compress_39247_22 : decode cJ2_compress_39247 22 = .ok (.iconst 1, 1) := by decide +kernel
theorem dJ2_compress_39247_23 : decode cJ2_compress_39247 23 = .ok (.ishl, 1) := by decide +kernel
theorem dJ2_compress_39247_24 : decode cJ2_compress_39247 24 = .ok (.iload_n 1, 1) := by decide +kernel
theorem dJ2_compress_39247_25 : decode cJ2_compress_39247 25 = .ok (.iload_n 2, 1) := by decide +kernel
theorem dJ2_compress_39247_26 : decode cJ2_compress_39247 26 = .ok (.iadd, 1) := by decide +kernel
theorem dJ2_compress_39247_27 : decode cJ2_compress_39247 27 = .ok (.invokestatic 11, 3) := by decide +kernel
theorem dJ2_compress_39247_30 : decode cJ2_compress_39247 30 = .ok (.invokestatic 126, 3) := by decide +kernel
theorem dJ2_compress_39247_33 : decode cJ2_compress_39247 33 = .ok (.astore 5, 2) := by decide +kernel
theorem dJ2_compress_39247_35 : decode cJ2_compress_39247 35 = .ok (.aload 5, 2) := by decide +kernel
theorem dJ2_compress_39247_37 : decode cJ2_compress_39247 37 = .ok (.iload 4, 2) := by decide +kernel
theorem dJ2_compress_39247_39 : decode cJ2_compress_39247 39 = .ok (.invokestatic 71, 3) := by decide +kernel
theorem dJ2_compress_39247_42 : decode cJ2_compress_39247 42 = .ok (.sipush 255, 3) := by decide +kernel
theorem dJ2_compress_39247_45 : decode cJ2_compress_39247 45 = .ok (.if_icmp .gt 16, 3) := by decide +kernel
theorem dJ2_compress_39247_48 : decode cJ2_compress_39247 48 = .ok (.aload 5, 2) := by decide +kernel
theorem dJ2_compress_39247_50 : decode cJ2_compress_39247 50 = .ok (.iconst 0, 1) := by decide +kernel
theorem dJ2_compress_39247_51 : decode cJ2_compress_39247 51 = .ok (.aload_n 3, 1) := by decide +kernel
theorem dJ2_compress_39247_52 : decode cJ2_compress_39247 52 = .ok (.iconst 0, 1) := by decide +kernel
theorem dJ2_compress_39247_53 : decode cJ2_compress_39247 53 = .ok (.iload_n 2, 1) := by decide +kernel
theorem dJ2_compress_39247_54 : decode cJ2_compress_39247 54 = .ok (.invokestatic 123, 3) := by decide +kernel
theorem dJ2_compress_39247_57 : decode cJ2_compress_39247 57 = .ok (.iload_n 2, 1) := by decide +kernel
theorem dJ2_compress_39247_58 : decode cJ2_compress_39247 58 = .ok (.if_icmp .eq 6, 3) := by decide +kernel
theorem dJ2_compress_39247_61 : decode cJ2_compress_39247 61 = .ok (.aload 5, 2) := by decide +kernel
theorem dJ2_compress_39247_63 : decode cJ2_compress_39247 63 = .ok (.areturn, 1) := by decide +kernel
theorem dJ2_compress_39247_64 : decode cJ2_compress_39247 64 = .ok (.aload_n 3, 1) := by decide +kernel
theorem dJ2_compress_39247_65 : decode cJ2_compress_39247 65 = .ok (.areturn, 1) := by decide +kernel
theorem dJ2_compress_5af95_0 : decode cJ2_compress_5af95 0 = .ok (.iload_n 1, 1) := by decide +kernel
theorem dJ2_compress_5af95_1 : decode cJ2_compress_5af95 1 = .ok (.iload 4, 2) := by decide +kernel
theorem dJ2_compress_5af95_3 : decode cJ2_compress_5af95 3 = .ok (.aload_n 0, 1) := by decide +kernel
theorem dJ2_compress_5af95_4 : decode cJ2_compress_5af95 4 = .ok (.invokestatic 173, 3) := by decide +kernel
theorem dJ2_compress_5af95_7 : decode cJ2_compress_5af95 7 = .ok (.iconst 0, 1) := by decide +kernel
theorem dJ2_compress_5af95_8 : decode cJ2_compress_5af95 8 = .ok (.istore 5, 2) := by decide +kernel
theorem dJ2_compress_5af95_10 : decode cJ2_compress_5af95 10 = .ok (.iload 5, 2) := by decide +kernel
theorem dJ2_compress_5af95_12 : decode cJ2_compress_5af95 12 = .ok (.iload 4, 2) := by decide +kernel
theorem dJ2_compress_5af95_14 : decode cJ2_compress_5af95 14 = .ok (.if_icmp .ge 39, 3) := by decide +kernel
theorem dJ2_compress_5af95_17 : decode cJ2_compress_5af95 17 = .ok (.aload_n 0, 1) := by decide +kernel
theorem dJ2_compress_5af95_18 : decode cJ2_compress_5af95 18 = .ok (.iload_n 1, 1) := by decide +kernel
theorem dJ2_compress_5af95_19 : decode cJ2_compress_5af95 19 = .ok (.invokestatic 71, 3) := by decide +kernel
theorem dJ2_compress_5af95_22 : decode cJ2_compress_5af95 22 = .ok (.istore 6, 2) := by decide +kernel
theorem dJ2_compress_5af95_24 : decode cJ2_compress_5af95 24 = .ok (.iload 6, 2) := by decide +kernel
theorem dJ2_compress_5af95_26 : decode cJ2_compress_5af95 26 = .ok (.sipush 255, 3) := by decide +kernel
theorem dJ2_compress_5af95_29 : decode cJ2_compress_5af95 29 = .ok (.if_icmp .le 6, 3) := by decide +kernel
theorem dJ2_compress_5af95_32 : decode cJ2_compress_5af95 32 = .ok (.iload 5, 2) := by decide +kernel
theorem dJ2_compress_5af95_34 : decode cJ2_compress_5af95 34 = .ok (.ireturn, 1) := by decide +kernel
theorem dJ2_compress_5af95_35 : decode cJ2_compress_5af95 35 = .ok (.aload_n 2, 1) := by decide +kernel
theorem dJ2_compress_5af95_36 : decode cJ2_compress_5af95 36 = .ok (.iload_n 3, 1) := by decide +kernel
theorem dJ2_compress_5af95_37 : decode cJ2_compress_5af95 37 = .ok (.iload 6, 2) := by decide +kernel
theorem dJ2_compress_5af95_39 : decode cJ2_compress_5af95 39 = .ok (.i2b, 1) := by decide +kernel
theorem dJ2_compress_5af95_40 : decode cJ2_compress_5af95 40 = .ok (.bastore, 1) := by decide +kernel
theorem dJ2_compress_5af95_41 : decode cJ2_compress_5af95 41 = .ok (.iinc 1 1, 3) := by decide +kernel
theorem dJ2_compress_5af95_44 : decode cJ2_compress_5af95 44 = .ok (.iinc 3 1, 3) := by decide +kernel
theorem dJ2_compress_5af95_47 : decode cJ2_compress_5af95 47 = .ok (.iinc 5 1, 3) := by decide +kernel
theorem dJ2_compress_5af95_50 : decode cJ2_compress_5af95 50 = .ok (.goto (-40), 3) := by decide +kernel
theorem dJ2_compress_5af95_53 : decode cJ2_compress_5af95 53 = .ok (.iload 4, 2) := by decide +kernel
theorem dJ2_compress_5af95_55 : decode cJ2_compress_5af95 55 = .ok (.ireturn, 1) := by decide +kernel
theorem dJ2_putCharSB_b72d1_0 : decode cJ2_putCharSB_b72d1 0 = .ok (.iload_n 1, 1) := by decide +kernel
theorem dJ2_putCharSB_b72d1_1 : decode cJ2_putCharSB_b72d1 1 = .ok (.aload_n 0, 1) := by decide +kernel
theorem dJ2_putCharSB_b72d1_2 : decode cJ2_putCharSB_b72d1 2 = .ok (.invokestatic 67, 3) := by decide +kernel
theorem dJ2_putCharSB_b72d1_5 : decode cJ2_putCharSB_b72d1 5 = .ok (.aload_n 0, 1) := by decide +kernel
theorem dJ2_putCharSB_b72d1_6 : decode cJ2_putCharSB_b72d1 6 = .ok (.iload_n 1, 1) := by decide +kernel
theorem dJ2_putCharSB_b72d1_7 : decode cJ2_putCharSB_b72d1 7 = .ok (.iload_n 2, 1) := by decide +kernel
theorem dJ2_putCharSB_b72d1_8 : decode cJ2_putCharSB_b72d1 8 = .ok (.invokestatic 111, 3) := by decide +kernel
theorem dJ2_putCharSB_b72d1_11 : decode cJ2_putCharSB_b72d1 11 = .ok (.return_, 1) := by decide +kernel
theorem dJ2_getChars_46870_0 : decode cJ2_getChars_46870 0 = .ok (.iload_n 1, 1) := by decide +kernel
theorem dJ2_getChars_46870_1 : decode cJ2_getChars_46870 1 = .ok (.iload_n 2, 1) := by decide +kernel
theorem dJ2_getChars_46870_2 : decode cJ2_getChars_46870 2 = .ok (.aload_n 3, 1) := by decide +kernel
theorem dJ2_getChars_46870_3 : decode cJ2_getChars_46870 3 = .ok (.invokestatic 96, 3) := by decide +kernel
theorem dJ2_getChars_46870_6 : decode cJ2_getChars_46870 6 = .ok (.iload_n 0, 1) := by decide +kernel
theorem dJ2_getChars_46870_7 : decode cJ2_getChars_46870 7 = .ok (.iload_n 2, 1) := by decide +kernel
theorem dJ2_getChars_46870_8 : decode cJ2_getChars_46870 8 = .ok (.aload_n 3, 1) := by decide +kernel
theorem dJ2_getChars_46870_9 : decode cJ2_getChars_46870 9 = .ok (.invokestatic 393, 3) := by decide +kernel
theorem dJ2_getChars_46870_12 : decode cJ2_getChars_46870 12 = .ok (.istore 4, 2) := by decide +kernel
theorem dJ2_getChars_46870_14 : decode cJ2_getChars_46870 14 = .ok (.getstatic 44, 3) := by decide +kernel
theorem dJ2_getChars_46870_17 : decode cJ2_getChars_46870 17 = .ok (.ifCond .ne 17, 3) := by decide +kernel
theorem dJ2_getChars_46870_20 : decode cJ2_getChars_46870 20 = .ok (.iload_n 1, 1) := by decide +kernel
theorem dJ2_getChars_46870_21 : decode cJ2_getChars_46870 21 = .ok (.iload 4, 2) := by decide +kernel
theorem dJ2_getChars_46870_23 : decode cJ2_getChars_46870 23 = .ok (.if_icmp .eq 11, 3) := by decide +kernel
theorem dJ2_getChars_46870_26 : decode cJ2_getChars_46870 26 = .ok (.new 52, 3) := by decide +kernel
theorem dJ2_getChars_46870_29 : decode cJ2_getChars_46870 29 = .ok (.dup, 1) := by decide +kernel
theorem dJ2_getChars_46870_30 : decode cJ2_getChars_46870 30 = .ok (.invokespecial 66, 3) := by decide +kernel
theorem dJ2_getChars_46870_33 : decode cJ2_getChars_46870 33 = .ok (.athrow, 1) := by decide +kernel
theorem dJ2_getChars_46870_34 : decode cJ2_getChars_46870 34 = .ok (.iload 4, 2) := by decide +kernel
theorem dJ2_getChars_46870_36 : decode cJ2_getChars_46870 36 = .ok (.ireturn, 1) := by decide +kernel
theorem dJ2_putCharsAt_cd4e5_0 : decode cJ2_putCharsAt_cd4e5 0 = .ok (.iload_n 1, 1) := by decide +kernel
theorem dJ2_putCharsAt_cd4e5_1 : decode cJ2_putCharsAt_cd4e5 1 = .ok (.iconst 4, 1) := by decide +kernel
theorem dJ2_putCharsAt_cd4e5_2 : decode cJ2_putCharsAt_cd4e5 2 = .ok (.iadd, 1) := by decide +kernel
theorem dJ2_putCharsAt_cd4e5_3 : decode cJ2_putCharsAt_cd4e5 3 = .ok (.istore 6, 2) := by decide +kernel
theorem dJ2_putCharsAt_cd4e5_5 : decode cJ2_putCharsAt_cd4e5 5 = .ok (.iload_n 1, 1) := by decide +kernel
theorem dJ2_putCharsAt_cd4e5_6 : decode cJ2_putCharsAt_cd4e5 6 = .ok (.iload 6, 2) := by decide +kernel
theorem dJ2_putCharsAt_cd4e5_8 : decode cJ2_putCharsAt_cd4e5 8 = .ok (.aload_n 0, 1) := by decide +kernel
theorem dJ2_putCharsAt_cd4e5_9 : decode cJ2_putCharsAt_cd4e5 9 = .ok (.invokestatic 96, 3) := by decide +kernel
theorem dJ2_putCharsAt_cd4e5_12 : decode cJ2_putCharsAt_cd4e5 12 = .ok (.aload_n 0, 1) := by decide +kernel
theorem dJ2_putCharsAt_cd4e5_13 : decode cJ2_putCharsAt_cd4e5 13 = .ok (.iload_n 1, 1) := by decide +kernel
theorem dJ2_putCharsAt_cd4e5_14 : decode cJ2_putCharsAt_cd4e5 14 = .ok (.iinc 1 1, 3) := by decide +kernel
theorem dJ2_putCharsAt_cd4e5_17 : decode cJ2_putCharsAt_cd4e5 17 = .ok (.iload_n 2, 1) := by decide +kernel
theorem dJ2_putCharsAt_cd4e5_18 : decode cJ2_putCharsAt_cd4e5 18 = .ok (.invokestatic 111, 3) := by decide +kernel
theorem dJ2_putCharsAt_cd4e5_21 : decode cJ2_putCharsAt_cd4e5 21 = .ok (.aload_n 0, 1) := by decide +kernel
theorem dJ2_putCharsAt_cd4e5_22 : decode cJ2_putCharsAt_cd4e5 22 = .ok (.iload_n 1, 1) := by decide +kernel
theorem dJ2_putCharsAt_cd4e5_23 : decode cJ2_putCharsAt_cd4e5 23 = .ok (.iinc 1 1, 3) := by decide +kernel
theorem dJ2_putCharsAt_cd4e5_26 : decode cJ2_putCharsAt_cd4e5 26 = .ok (.iload_n 3, 1) := by decide +kernel
theorem dJ2_putCharsAt_cd4e5_27 : decode cJ2_putCharsAt_cd4e5 27 = .ok (.invokestatic 111, 3) := by decide +kernel
theorem dJ2_putCharsAt_cd4e5_30 : decode cJ2_putCharsAt_cd4e5 30 = .ok (.aload_n 0, 1) := by decide +kernel
theorem dJ2_putCharsAt_cd4e5_31 : decode cJ2_putCharsAt_cd4e5 31 = .ok (.iload_n 1, 1) := by decide +kernel
theorem dJ2_putCharsAt_cd4e5_32 : decode cJ2_putCharsAt_cd4e5 32 = .ok (.iinc 1 1, 3) := by decide +kernel
theorem dJ2_putCharsAt_cd4e5_35 : decode cJ2_putCharsAt_cd4e5 35 = .ok (.iload 4, 2) := by decide +kernel
theorem dJ2_putCharsAt_cd4e5_37 : decode cJ2_putCharsAt_cd4e5 37 = .ok (.invokestatic 111, 3) := by decide +kernel
theorem dJ2_putCharsAt_cd4e5_40 : decode cJ2_putCharsAt_cd4e5 40 = .ok (.aload_n 0, 1) := by decide +kernel
theorem dJ2_putCharsAt_cd4e5_41 : decode cJ2_putCharsAt_cd4e5 41 = .ok (.iload_n 1, 1) := by decide +kernel
theorem dJ2_putCharsAt_cd4e5_42 : decode cJ2_putCharsAt_cd4e5 42 = .ok (.iinc 1 1, 3) := by decide +kernel
theorem dJ2_putCharsAt_cd4e5_45 : decode cJ2_putCharsAt_cd4e5 45 = .ok (.iload 5, 2) := by decide +kernel
theorem dJ2_putCharsAt_cd4e5_47 : decode cJ2_putCharsAt_cd4e5 47 = .ok (.invokestatic 111, 3) := by decide +kernel
theorem dJ2_putCharsAt_cd4e5_50 : decode cJ2_putCharsAt_cd4e5 50 = .ok (.getstatic 44, 3) := by decide +kernel
theorem dJ2_putCharsAt_cd4e5_53 : decode cJ2_putCharsAt_cd4e5 53 = .ok (.ifCond .ne 17, 3) := by decide +kernel
theorem dJ2_putCharsAt_cd4e5_56 : decode cJ2_putCharsAt_cd4e5 56 = .ok (.iload_n 1, 1) := by decide +kernel
theorem dJ2_putCharsAt_cd4e5_57 : decode cJ2_putCharsAt_cd4e5 57 = .ok (.iload 6, 2) := by decide +kernel
theorem dJ2_putCharsAt_cd4e5_59 : decode cJ2_putCharsAt_cd4e5 59 = .ok (.if_icmp .eq 11, 3) := by decide +kernel
theorem dJ2_putCharsAt_cd4e5_62 : decode cJ2_putCharsAt_cd4e5 62 = .ok (.new 52, 3) := by decide +kernel
theorem dJ2_putCharsAt_cd4e5_65 : decode cJ2_putCharsAt_cd4e5 65 = .ok (.dup, 1) := by decide +kernel
theorem dJ2_putCharsAt_cd4e5_66 : decode cJ2_putCharsAt_cd4e5 66 = .ok (.invokespecial 66, 3) := by decide +kernel
theorem dJ2_putCharsAt_cd4e5_69 : decode cJ2_putCharsAt_cd4e5 69 = .ok (.athrow, 1) := by decide +kernel
theorem dJ2_putCharsAt_cd4e5_70 : decode cJ2_putCharsAt_cd4e5 70 = .ok (.iload 6, 2) := by decide +kernel
theorem dJ2_putCharsAt_cd4e5_72 : decode cJ2_putCharsAt_cd4e5 72 = .ok (.ireturn, 1) := by decide +kernel
theorem dJ2_charAt_3b067_0 : decode cJ2_charAt_3b067 0 = .ok (.iload_n 1, 1) := by decide +kernel
theorem dJ2_charAt_3b067_1 : decode cJ2_charAt_3b067 1 = .ok (.aload_n 0, 1) := by decide +kernel
theorem dJ2_charAt_3b067_2 : decode cJ2_charAt_3b067 2 = .ok (.invokestatic 67, 3) := by decide +kernel
theorem dJ2_charAt_3b067_5 : decode cJ2_charAt_3b067 5 = .ok (.aload_n 0, 1) := by decide +kernel
theorem dJ2_charAt_3b067_6 : decode cJ2_charAt_3b067 6 = .ok (.iload_n 1, 1) := by decide +kernel
theorem dJ2_charAt_3b067_7 : decode cJ2_charAt_3b067 7 = .ok (.invokestatic 71, 3) := by decide +kernel
theorem dJ2_charAt_3b067_10 : decode cJ2_charAt_3b067 10 = .ok (.ireturn, 1) := by decide +kernel
theorem dJ2_inflate_0e8fd_0 : decode cJ2_inflate_0e8fd 0 = .ok (.iload_n 3, 1) := by decide +kernel
theorem dJ2_inflate_0e8fd_1 : decode cJ2_inflate_0e8fd 1 = .ok (.iload 4, 2) := by decide +kernel
theorem dJ2_inflate_0e8fd_3 : decode cJ2_inflate_0e8fd 3 = .ok (.aload_n 2, 1) := by decide +kernel
theorem dJ2_inflate_0e8fd_4 : decode cJ2_inflate_0e8fd 4 = .ok (.invokestatic 173, 3) := by decide +kernel
theorem dJ2_inflate_0e8fd_7 : decode cJ2_inflate_0e8fd 7 = .ok (.iconst 0, 1) := by decide +kernel
theorem dJ2_inflate_0e8fd_8 : decode cJ2_inflate_0e8fd 8 = .ok (.istore 5, 2) := by decide +kernel
theorem dJ2_inflate_0e8fd_10 : decode cJ2_inflate_0e8fd 10 = .ok (.iload 5, 2) := by decide +kernel
theorem dJ2_inflate_0e8fd_12 : decode cJ2_inflate_0e8fd 12 = .ok (.iload 4, 2) := by decide +kernel
theorem dJ2_inflate_0e8fd_14 : decode cJ2_inflate_0e8fd 14 = .ok (.if_icmp .ge 27, 3) := by decide +kernel
theorem dJ2_inflate_0e8fd_17 : decode cJ2_inflate_0e8fd 17 = .ok (.aload_n 2, 1) := by decide +kernel
theorem dJ2_inflate_0e8fd_18 : decode cJ2_inflate_0e8fd 18 = .ok (.iload_n 3, 1) := by decide +kernel
theorem dJ2_inflate_0e8fd_19 : decode cJ2_inflate_0e8fd 19 = .ok (.iinc 3 1, 3) := by decide +kernel
theorem dJ2_inflate_0e8fd_22 : decode cJ2_inflate_0e8fd 22 = .ok (.aload_n 0, 1) := by decide +kernel
theorem dJ2_inflate_0e8fd_23 : decode cJ2_inflate_0e8fd 23 = .ok (.iload_n 1, 1) := by decide +kernel
theorem dJ2_inflate_0e8fd_24 : decode cJ2_inflate_0e8fd 24 = .ok (.iinc 1 1, 3) := by decide +kernel
theorem dJ2_inflate_0e8fd_27 : decode cJ2_inflate_0e8fd 27 = .ok (.baload, 1) := by decide +kernel
theorem dJ2_inflate_0e8fd_28 : decode cJ2_inflate_0e8fd 28 = .ok (.sipush 255, 3) := by decide +kernel
theorem dJ2_inflate_0e8fd_31 : decode cJ2_inflate_0e8fd 31 = .ok (.iand, 1) := by decide +kernel
theorem dJ2_inflate_0e8fd_32 : decode cJ2_inflate_0e8fd 32 = .ok (.invokestatic 111, 3) := by decide +kernel
theorem dJ2_inflate_0e8fd_35 : decode cJ2_inflate_0e8fd 35 = .ok (.iinc 5 1, 3) := by decide +kernel
theorem dJ2_inflate_0e8fd_38 : decode cJ2_inflate_0e8fd 38 = .ok (.goto (-28), 3) := by decide +kernel
theorem dJ2_inflate_0e8fd_41 : decode cJ2_inflate_0e8fd 41 = .ok (.return_, 1) := by decide +kernel
theorem dJ2_getChars_ba4f3_0 : decode cJ2_getChars_ba4f3 0 = .ok (.iload_n 1, 1) := by decide +kernel
theorem dJ2_getChars_ba4f3_1 : decode cJ2_getChars_ba4f3 1 = .ok (.istore 5, 2) := by decide +kernel
theorem dJ2_getChars_ba4f3_3 : decode cJ2_getChars_ba4f3 3 = .ok (.iload_n 0, 1) := by decide +kernel
theorem dJ2_getChars_ba4f3_4 : decode cJ2_getChars_ba4f3 4 = .ok (.ifCond .ge 7, 3) := by decide +kernel
theorem dJ2_getChars_ba4f3_7 : decode cJ2_getChars_ba4f3 7 = .ok (.iconst 1, 1) := by decide +kernel
theorem dJ2_getChars_ba4f3_8 : decode cJ2_getChars_ba4f3 8 = .ok (.goto 4, 3) := by decide +kernel
theorem dJ2_getChars_ba4f3_11 : decode cJ2_getChars_ba4f3 11 = .ok (.iconst 0, 1) := by decide +kernel
theorem dJ2_getChars_ba4f3_12 : decode cJ2_getChars_ba4f3 12 = .ok (.istore 6, 2) := by decide +kernel
theorem dJ2_getChars_ba4f3_14 : decode cJ2_getChars_ba4f3 14 = .ok (.iload 6, 2) := by decide +kernel
theorem dJ2_getChars_ba4f3_16 : decode cJ2_getChars_ba4f3 16 = .ok (.ifCond .ne 6, 3) := by decide +kernel
theorem dJ2_getChars_ba4f3_19 : decode cJ2_getChars_ba4f3 19 = .ok (.iload_n 0, 1) := by decide +kernel
theorem dJ2_getChars_ba4f3_20 : decode cJ2_getChars_ba4f3 20 = .ok (.ineg, 1) := by decide +kernel
theorem dJ2_getChars_ba4f3_21 : decode cJ2_getChars_ba4f3 21 = .ok (.istore_n 0, 1) := by decide +kernel
theorem dJ2_getChars_ba4f3_22 : decode cJ2_getChars_ba4f3 22 = .ok (.iload_n 0, 1) := by decide +kernel
theorem dJ2_getChars_ba4f3_23 : decode cJ2_getChars_ba4f3 23 = .ok (.bipush (-100), 2) := by decide +kernel
theorem dJ2_getChars_ba4f3_25 : decode cJ2_getChars_ba4f3 25 = .ok (.if_icmp .gt 51, 3) := by decide +kernel
theorem dJ2_getChars_ba4f3_28 : decode cJ2_getChars_ba4f3 28 = .ok (.iload_n 0, 1) := by decide +kernel
theorem dJ2_getChars_ba4f3_29 : decode cJ2_getChars_ba4f3 29 = .ok (.bipush 100, 2) := by decide +kernel
theorem dJ2_getChars_ba4f3_31 : decode cJ2_getChars_ba4f3 31 = .ok (.idiv, 1) := by decide +kernel
theorem dJ2_getChars_ba4f3_32 : decode cJ2_getChars_ba4f3 32 = .ok (.istore_n 3, 1) := by decide +kernel
theorem dJ2_getChars_ba4f3_33 : decode cJ2_getChars_ba4f3 33 = .ok (.iload_n 3, 1) := by decide +kernel
theorem dJ2_getChars_ba4f3_34 : decode cJ2_getChars_ba4f3 34 = .ok (.bipush 100, 2) := by decide +kernel
theorem dJ2_getChars_ba4f3_36 : decode cJ2_getChars_ba4f3 36 = .ok (.imul, 1) := by decide +kernel
theorem dJ2_getChars_ba4f3_37 : decode cJ2_getChars_ba4f3 37 = .ok (.iload_n 0, 1) := by decide +kernel
theorem dJ2_getChars_ba4f3_38 : decode cJ2_getChars_ba4f3 38 = .ok (.isub, 1) := by decide +kernel
theorem dJ2_getChars_ba4f3_39 : decode cJ2_getChars_ba4f3 39 = .ok (.istore 4, 2) := by decide +kernel
theorem dJ2_getChars_ba4f3_41 : decode cJ2_getChars_ba4f3 41 = .ok (.iload_n 3, 1) := by decide +kernel
theorem dJ2_getChars_ba4f3_42 : decode cJ2_getChars_ba4f3 42 = .ok (.istore_n 0, 1) := by decide +kernel
theorem dJ2_getChars_ba4f3_43 : decode cJ2_getChars_ba4f3 43 = .ok (.aload_n 2, 1) := by decide +kernel
theorem dJ2_getChars_ba4f3_44 : decode cJ2_getChars_ba4f3 44 = .ok (.iinc 5 (-1), 3) := by decide +kernel
theorem dJ2_getChars_ba4f3_47 : decode cJ2_getChars_ba4f3 47 = .ok (.iload 5, 2) := by decide +kernel
theorem dJ2_getChars_ba4f3_49 : decode cJ2_getChars_ba4f3 49 = .ok (.getstatic 403, 3) := by decide +kernel
theorem dJ2_getChars_ba4f3_52 : decode cJ2_getChars_ba4f3 52 = .ok (.iload 4, 2) := by decide +kernel
theorem dJ2_getChars_ba4f3_54 : decode cJ2_getChars_ba4f3 54 = .ok (.baload, 1) := by decide +kernel
theorem dJ2_getChars_ba4f3_55 : decode cJ2_getChars_ba4f3 55 = .ok (.invokestatic 111, 3) := by decide +kernel
theorem dJ2_getChars_ba4f3_58 : decode cJ2_getChars_ba4f3 58 = .ok (.aload_n 2, 1) := by decide +kernel
theorem dJ2_getChars_ba4f3_59 : decode cJ2_getChars_ba4f3 59 = .ok (.iinc 5 (-1), 3) := by decide +kernel
theorem dJ2_getChars_ba4f3_62 : decode cJ2_getChars_ba4f3 62 = .ok (.iload 5, 2) := by decide +kernel
theorem dJ2_getChars_ba4f3_64 : decode cJ2_getChars_ba4f3 64 = .ok (.getstatic 407, 3) := by decide +kernel
theorem dJ2_getChars_ba4f3_67 : decode cJ2_getChars_ba4f3 67 = .ok (.iload 4, 2) := by decide +kernel
theorem dJ2_getChars_ba4f3_69 : decode cJ2_getChars_ba4f3 69 = .ok (.baload, 1) := by decide +kernel
theorem dJ2_getChars_ba4f3_70 : decode cJ2_getChars_ba4f3 70 = .ok (.invokestatic 111, 3) := by decide +kernel
theorem dJ2_getChars_ba4f3_73 : decode cJ2_getChars_ba4f3 73 = .ok (.goto (-51), 3) := by decide +kernel
theorem dJ2_getChars_ba4f3_76 : decode cJ2_getChars_ba4f3 76 = .ok (.aload_n 2, 1) := by decide +kernel
theorem dJ2_getChars_ba4f3_77 : decode cJ2_getChars_ba4f3 77 = .ok (.iinc 5 (-1), 3) := by decide +kernel
theorem dJ2_getChars_ba4f3_80 : decode cJ2_getChars_ba4f3 80 = .ok (.iload 5, 2) := by decide +kernel
theorem dJ2_getChars_ba4f3_82 : decode cJ2_getChars_ba4f3 82 = .ok (.getstatic 403, 3) := by decide +kernel
theorem dJ2_getChars_ba4f3_85 : decode cJ2_getChars_ba4f3 85 = .ok (.iload_n 0, 1) := by decide +kernel
theorem dJ2_getChars_ba4f3_86 : decode cJ2_getChars_ba4f3 86 = .ok (.ineg, 1) := by decide +kernel
theorem dJ2_getChars_ba4f3_87 : decode cJ2_getChars_ba4f3 87 = .ok (.baload, 1) := by decide +kernel
theorem dJ2_getChars_ba4f3_88 : decode cJ2_getChars_ba4f3 88 = .ok (.invokestatic 111, 3) := by decide +kernel
theorem dJ2_getChars_ba4f3_91 : decode cJ2_getChars_ba4f3 91 = .ok (.iload_n 0, 1) := by decide +kernel
theorem dJ2_getChars_ba4f3_92 : decode cJ2_getChars_ba4f3 92 = .ok (.bipush (-9), 2) := by decide +kernel
theorem dJ2_getChars_ba4f3_94 : decode cJ2_getChars_ba4f3 94 = .ok (.if_icmp .ge 18, 3) := by decide +kernel
theorem dJ2_getChars_ba4f3_97 : decode cJ2_getChars_ba4f3 97 = .ok (.aload_n 2, 1) := by decide +kernel
theorem dJ2_getChars_ba4f3_98 : decode cJ2_getChars_ba4f3 98 = .ok (.iinc 5 (-1), 3) := by decide +kernel
theorem dJ2_getChars_ba4f3_101 : decode cJ2_getChars_ba4f3 101 = .ok (.iload 5, 2) := by decide +kernel
theorem dJ2_getChars_ba4f3_103 : decode cJ2_getChars_ba4f3 103 = .ok (.getstatic 407, 3) := by decide +kernel
theorem dJ2_getChars_ba4f3_106 : decode cJ2_getChars_ba4f3 106 = .ok (.iload_n 0, 1) := by decide +kernel
theorem dJ2_getChars_ba4f3_107 : decode cJ2_getChars_ba4f3 107 = .ok (.ineg, 1) := by decide +kernel
theorem dJ2_getChars_ba4f3_108 : decode cJ2_getChars_ba4f3 108 = .ok (.baload, 1) := by decide +kernel
theorem dJ2_getChars_ba4f3_109 : decode cJ2_getChars_ba4f3 109 = .ok (.invokestatic 111, 3) := by decide +kernel
theorem dJ2_getChars_ba4f3_112 : decode cJ2_getChars_ba4f3 112 = .ok (.iload 6, 2) := by decide +kernel
theorem dJ2_getChars_ba4f3_114 : decode cJ2_getChars_ba4f3 114 = .ok (.ifCond .eq 14, 3) := by decide +kernel
theorem dJ2_getChars_ba4f3_117 : decode cJ2_getChars_ba4f3 117 = .ok (.aload_n 2, 1) := by decide +kernel
theorem dJ2_getChars_ba4f3_118 : decode cJ2_getChars_ba4f3 118 = .ok (.iinc 5 (-1), 3) := by decide +kernel
theorem dJ2_getChars_ba4f3_121 : decode cJ2_getChars_ba4f3 121 = .ok (.iload 5, 2) := by decide +kernel
theorem dJ2_getChars_ba4f3_123 : decode cJ2_getChars_ba4f3 123 = .ok (.bipush 45, 2) := by decide +kernel
theorem dJ2_getChars_ba4f3_125 : decode cJ2_getChars_ba4f3 125 = .ok (.invokestatic 111, 3) := by decide +kernel
theorem dJ2_getChars_ba4f3_128 : decode cJ2_getChars_ba4f3 128 = .ok (.iload 5, 2) := by decide +kernel
theorem dJ2_getChars_ba4f3_130 : decode cJ2_getChars_ba4f3 130 = .ok (.ireturn, 1) := by decide +kernel
theorem dJ2_checkIndex_2214a_0 : decode cJ2_checkIndex_2214a 0 = .ok (.iload_n 0, 1) := by decide +kernel
theorem dJ2_checkIndex_2214a_1 : decode cJ2_checkIndex_2214a 1 = .ok (.aload_n 1, 1) := by decide +kernel
theorem dJ2_checkIndex_2214a_2 : decode cJ2_checkIndex_2214a 2 = .ok (.invokestatic 48, 3) := by decide +kernel
theorem dJ2_checkIndex_2214a_5 : decode cJ2_checkIndex_2214a 5 = .ok (.invokestatic 414, 3) := by decide +kernel
theorem dJ2_checkIndex_2214a_8 : decode cJ2_checkIndex_2214a 8 = .ok (.return_, 1) := by decide +kernel
theorem dJ2_checkBoundsBeginEnd_d044e_0 : decode cJ2_checkBoundsBeginEnd_d044e 0 = .ok (.iload_n 0, 1) := by decide +kernel
theorem dJ2_checkBoundsBeginEnd_d044e_1 : decode cJ2_checkBoundsBeginEnd_d044e 1 = .ok (.iload_n 1, 1) := by decide +kernel
theorem dJ2_checkBoundsBeginEnd_d044e_2 : decode cJ2_checkBoundsBeginEnd_d044e 2 = .ok (.aload_n 2, 1) := by decide +kernel
theorem dJ2_checkBoundsBeginEnd_d044e_3 : decode cJ2_checkBoundsBeginEnd_d044e 3 = .ok (.invokestatic 48, 3) := by decide +kernel
theorem dJ2_checkBoundsBeginEnd_d044e_6 : decode cJ2_checkBoundsBeginEnd_d044e 6 = .ok (.invokestatic 241, 3) := by decide +kernel
theorem dJ2_checkBoundsBeginEnd_d044e_9 : decode cJ2_checkBoundsBeginEnd_d044e 9 = .ok (.return_, 1) := by decide +kernel
theorem dJ2_checkBoundsOffCount_d044e_0 : decode cJ2_checkBoundsOffCount_d044e 0 = .ok (.iload_n 0, 1) := by decide +kernel
theorem dJ2_checkBoundsOffCount_d044e_1 : decode cJ2_checkBoundsOffCount_d044e 1 = .ok (.iload_n 1, 1) := by decide +kernel
theorem dJ2_checkBoundsOffCount_d044e_2 : decode cJ2_checkBoundsOffCount_d044e 2 = .ok (.aload_n 2, 1) := by decide +kernel
theorem dJ2_checkBoundsOffCount_d044e_3 : decode cJ2_checkBoundsOffCount_d044e 3 = .ok (.invokestatic 48, 3) := by decide +kernel
theorem dJ2_checkBoundsOffCount_d044e_6 : decode cJ2_checkBoundsOffCount_d044e 6 = .ok (.invokestatic 419, 3) := by decide +kernel
theorem dJ2_checkBoundsOffCount_d044e_9 : decode cJ2_checkBoundsOffCount_d044e 9 = .ok (.pop, 1) := by decide +kernel
theorem dJ2_checkBoundsOffCount_d044e_10 : decode cJ2_checkBoundsOffCount_d044e 10 = .ok (.return_, 1) := by decide +kernel
theorem dJ7_copyOf_9075b_0 : decode cJ7_copyOf_9075b 0 = .ok (.iload_n 1, 1) := by decide +kernel
theorem dJ7_copyOf_9075b_1 : decode cJ7_copyOf_9075b 1 = .ok (.aload_n 0, 1) := by decide +kernel
theorem dJ7_copyOf_9075b_2 : decode cJ7_copyOf_9075b 2 = .ok (.arraylength, 1) := by decide +kernel
theorem dJ7_copyOf_9075b_3 : decode cJ7_copyOf_9075b 3 = .ok (.if_icmp .ne 11, 3) := by decide +kernel
theorem dJ7_copyOf_9075b_6 : decode cJ7_copyOf_9075b 6 = .ok (.aload_n 0, 1) := by decide +kernel
theorem dJ7_copyOf_9075b_7 : decode cJ7_copyOf_9075b 7 = .ok (.invokevirtual 310, 3) := by decide +kernel
theorem dJ7_copyOf_9075b_10 : decode cJ7_copyOf_9075b 10 = .ok (.checkcast 311, 3) := by decide +kernel
theorem dJ7_copyOf_9075b_13 : decode cJ7_copyOf_9075b 13 = .ok (.areturn, 1) := by decide +kernel
theorem dJ7_copyOf_9075b_14 : decode cJ7_copyOf_9075b 14 = .ok (.iload_n 1, 1) := by decide +kernel
theorem dJ7_copyOf_9075b_15 : decode cJ7_copyOf_9075b 15 = .ok (.newarray .byte, 2) := by decide +kernel
theorem dJ7_copyOf_9075b_17 : decode cJ7_copyOf_9075b 17 = .ok (.astore_n 2, 1) := by decide +kernel
theorem dJ7_copyOf_9075b_18 : decode cJ7_copyOf_9075b 18 = .ok (.aload_n 0, 1) := by decide +kernel
theorem dJ7_copyOf_9075b_19 : decode cJ7_copyOf_9075b 19 = .ok (.iconst 0, 1) := by decide +kernel
theorem dJ7_copyOf_9075b_20 : decode cJ7_copyOf_9075b 20 = .ok (.aload_n 2, 1) := by decide +kernel
theorem dJ7_copyOf_9075b_21 : decode cJ7_copyOf_9075b 21 = .ok (.iconst 0, 1) := by decide +kernel
theorem dJ7_copyOf_9075b_22 : decode cJ7_copyOf_9075b 22 = .ok (.aload_n 0, 1) := by decide +kernel
theorem dJ7_copyOf_9075b_23 : decode cJ7_copyOf_9075b 23 = .ok (.arraylength, 1) := by decide +kernel
theorem dJ7_copyOf_9075b_24 : decode cJ7_copyOf_9075b 24 = .ok (.iload_n 1, 1) := by decide +kernel
theorem dJ7_copyOf_9075b_25 : decode cJ7_copyOf_9075b 25 = .ok (.invokestatic 304, 3) := by decide +kernel
theorem dJ7_copyOf_9075b_28 : decode cJ7_copyOf_9075b 28 = .ok (.invokestatic 150, 3) := by decide +kernel
theorem dJ7_copyOf_9075b_31 : decode cJ7_copyOf_9075b 31 = .ok (.aload_n 2, 1) := by decide +kernel
theorem dJ7_copyOf_9075b_32 : decode cJ7_copyOf_9075b 32 = .ok (.areturn, 1) := by decide +kernel
theorem dJ7_checkLength_df160_0 : decode cJ7_checkLength_df160 0 = .ok (.iload_n 1, 1) := by decide +kernel
theorem dJ7_checkLength_df160_1 : decode cJ7_checkLength_df160 1 = .ok (.iload_n 0, 1) := by decide +kernel
theorem dJ7_checkLength_df160_2 : decode cJ7_checkLength_df160 2 = .ok (.if_icmp .ge 35, 3) := by decide +kernel
theorem dJ7_checkLength_df160_5 : decode cJ7_checkLength_df160 5 = .ok (.new 43, 3) := by decide +kernel
theorem dJ7_checkLength_df160_8 : decode cJ7_checkLength_df160 8 = .ok (.dup, 1) := by decide +kernel
theorem dJ7_checkLength_df160_9 : decode cJ7_checkLength_df160 9 = .ok (.new 45, 3) := by decide +kernel
theorem dJ7_checkLength_df160_12 : decode cJ7_checkLength_df160 12 = .ok (.dup, 1) := by decide +kernel
theorem dJ7_checkLength_df160_13 : decode cJ7_checkLength_df160 13 = .ok (.invokespecial 47, 3) := by decide +kernel
theorem dJ7_checkLength_df160_16 : decode cJ7_checkLength_df160 16 = .ok (.iload_n 0, 1) := by decide +kernel
theorem dJ7_checkLength_df160_17 : decode cJ7_checkLength_df160 17 = .ok (.invokevirtual 54, 3) := by decide +kernel
theorem dJ7_checkLength_df160_20 : decode cJ7_checkLength_df160 20 = .ok (.ldc_w 337, 3) := by decide +kernel
theorem dJ7_checkLength_df160_23 : decode cJ7_checkLength_df160 23 = .ok (.invokevirtual 50, 3) := by decide +kernel
theorem dJ7_checkLength_df160_26 : decode cJ7_checkLength_df160 26 = .ok (.iload_n 1, 1) := by decide +kernel
theorem dJ7_checkLength_df160_27 : decode cJ7_checkLength_df160 27 = .ok (.invokevirtual 54, 3) := by decide +kernel
theorem dJ7_checkLength_df160_30 : decode cJ7_checkLength_df160 30 = .ok (.invokevirtual 61, 3) := by decide +kernel
theorem dJ7_checkLength_df160_33 : decode cJ7_checkLength_df160 33 = .ok (.invokespecial 65, 3) := by decide +kernel
theorem dJ7_checkLength_df160_36 : decode cJ7_checkLength_df160 36 = .ok (.athrow, 1) := by decide +kernel
theorem dJ7_checkLength_df160_37 : decode cJ7_checkLength_df160 37 = .ok (.return_, 1) := by decide +kernel
theorem dJ7_copyOfRange_39247_0 : decode cJ7_copyOfRange_39247 0 = .ok (.iload_n 1, 1) := by decide +kernel
theorem dJ7_copyOfRange_39247_1 : decode cJ7_copyOfRange_39247 1 = .ok (.ifCond .ne 9, 3) := by decide +kernel
theorem dJ7_copyOfRange_39247_4 : decode cJ7_copyOfRange_39247 4 = .ok (.iload_n 2, 1) := by decide +kernel
theorem dJ7_copyOfRange_39247_5 : decode cJ7_copyOfRange_39247 5 = .ok (.aload_n 0, 1) := by decide +kernel
theorem dJ7_copyOfRange_39247_6 : decode cJ7_copyOfRange_39247 6 = .ok (.arraylength, 1) := by decide +kernel
theorem dJ7_copyOfRange_39247_7 : decode cJ7_copyOfRange_39247 7 = .ok (.if_icmp .eq 10, 3) := by decide +kernel
theorem dJ7_copyOfRange_39247_10 : decode cJ7_copyOfRange_39247 10 = .ok (.aload_n 0, 1) := by decide +kernel
theorem dJ7_copyOfRange_39247_11 : decode cJ7_copyOfRange_39247 11 = .ok (.iload_n 1, 1) := by decide +kernel
theorem dJ7_copyOfRange_39247_12 : decode cJ7_copyOfRange_39247 12 = .ok (.iload_n 2, 1) := by decide +kernel
theorem dJ7_copyOfRange_39247_13 : decode cJ7_copyOfRange_39247 13 = .ok (.invokestatic 339, 3) := by decide +kernel
theorem dJ7_copyOfRange_39247_16 : decode cJ7_copyOfRange_39247 16 = .ok (.areturn, 1) := by decide +kernel
theorem dJ7_copyOfRange_39247_17 : decode cJ7_copyOfRange_39247 17 = .ok (.aload_n 0, 1) := by decide +kernel
theorem dJ7_copyOfRange_39247_18 : decode cJ7_copyOfRange_39247 18 = .ok (.invokevirtual 310, 3) := by decide +kernel
theorem dJ7_copyOfRange_39247_21 : decode cJ7_copyOfRange_39247 21 = .ok (.checkcast 311, 3) := by decide +kernel
theorem dJ7_copyOfRange_39247_24 : decode cJ7_copyOfRange_39247 24 = .ok (.areturn, 1) := by decide +kernel
theorem dJ7_copyOfRangeByte_39247_0 : decode cJ7_copyOfRangeByte_39247 0 = .ok (.iload_n 1, 1) := by decide +kernel
theorem dJ7_copyOfRangeByte_39247_1 : decode cJ7_copyOfRangeByte_39247 1 = .ok (.iload_n 2, 1) := by decide +kernel
theorem dJ7_copyOfRangeByte_39247_2 : decode cJ7_copyOfRangeByte_39247 2 = .ok (.invokestatic 343, 3) := by decide +kernel
theorem dJ7_copyOfRangeByte_39247_5 : decode cJ7_copyOfRangeByte_39247 5 = .ok (.iload_n 2, 1) := by decide +kernel
theorem dJ7_copyOfRangeByte_39247_6 : decode cJ7_copyOfRangeByte_39247 6 = .ok (.iload_n 1, 1) := by decide +kernel
theorem dJ7_copyOfRangeByte_39247_7 : decode cJ7_copyOfRangeByte_39247 7 = .ok (.isub, 1) := by decide +kernel
theorem dJ7_copyOfRangeByte_39247_8 : decode cJ7_copyOfRangeByte_39247 8 = .ok (.istore_n 3, 1) := by decide +kernel
theorem dJ7_copyOfRangeByte_39247_9 : decode cJ7_copyOfRangeByte_39247 9 = .ok (.iload_n 3, 1) := by decide +kernel
theorem dJ7_copyOfRangeByte_39247_10 : decode cJ7_copyOfRangeByte_39247 10 = .ok (.newarray .byte, 2) := by decide +kernel
theorem dJ7_copyOfRangeByte_39247_12 : decode cJ7_copyOfRangeByte_39247 12 = .ok (.astore 4, 2) := by decide +kernel
theorem dJ7_copyOfRangeByte_39247_14 : decode cJ7_copyOfRangeByte_39247 14 = .ok (.aload_n 0, 1) := by decide +kernel
theorem dJ7_copyOfRangeByte_39247_15 : decode cJ7_copyOfRangeByte_39247 15 = .ok (.iload_n 1, 1) := by decide +kernel
theorem dJ7_copyOfRangeByte_39247_16 : decode cJ7_copyOfRangeByte_39247 16 = .ok (.aload 4, 2) := by decide +kernel
theorem dJ7_copyOfRangeByte_39247_18 : decode cJ7_copyOfRangeByte_39247 18 = .ok (.iconst 0, 1) := by decide +kernel
theorem dJ7_copyOfRangeByte_39247_19 : decode cJ7_copyOfRangeByte_39247 19 = .ok (.aload_n 0, 1) := by decide +kernel
theorem dJ7_copyOfRangeByte_39247_20 : decode cJ7_copyOfRangeByte_39247 20 = .ok (.arraylength, 1) := by decide +kernel
theorem dJ7_copyOfRangeByte_39247_21 : decode cJ7_copyOfRangeByte_39247 21 = .ok (.iload_n 1, 1) := by decide +kernel
theorem dJ7_copyOfRangeByte_39247_22 : decode cJ7_copyOfRangeByte_39247 22 = .ok (.isub, 1) := by decide +kernel
theorem dJ7_copyOfRangeByte_39247_23 : decode cJ7_copyOfRangeByte_39247 23 = .ok (.iload_n 3, 1) := by decide +kernel
theorem dJ7_copyOfRangeByte_39247_24 : decode cJ7_copyOfRangeByte_39247 24 = .ok (.invokestatic 304, 3) := by decide +kernel
theorem dJ7_copyOfRangeByte_39247_27 : decode cJ7_copyOfRangeByte_39247 27 = .ok (.invokestatic 150, 3) := by decide +kernel
theorem dJ7_copyOfRangeByte_39247_30 : decode cJ7_copyOfRangeByte_39247 30 = .ok (.aload 4, 2) := by decide +kernel
theorem dJ7_copyOfRangeByte_39247_32 : decode cJ7_copyOfRangeByte_39247 32 = .ok (.areturn, 1) := by decide +kernel
theorem dJ8_newLength_cabcc_0 : decode cJ8_newLength_cabcc 0 = .ok (.iload_n 0, 1) := by decide +kernel
theorem dJ8_newLength_cabcc_1 : decode cJ8_newLength_cabcc 1 = .ok (.iload_n 1, 1) := by decide +kernel
theorem dJ8_newLength_cabcc_2 : decode cJ8_newLength_cabcc 2 = .ok (.iload_n 2, 1) := by decide +kernel
theorem dJ8_newLength_cabcc_3 : decode cJ8_newLength_cabcc 3 = .ok (.invokestatic 194, 3) := by decide +kernel
theorem dJ8_newLength_cabcc_6 : decode cJ8_newLength_cabcc 6 = .ok (.iadd, 1) := by decide +kernel
theorem dJ8_newLength_cabcc_7 : decode cJ8_newLength_cabcc 7 = .ok (.istore_n 3, 1) := by decide +kernel
theorem dJ8_newLength_cabcc_8 : decode cJ8_newLength_cabcc 8 = .ok (.iconst 0, 1) := by decide +kernel
theorem dJ8_newLength_cabcc_9 : decode cJ8_newLength_cabcc 9 = .ok (.iload_n 3, 1) := by decide +kernel
theorem dJ8_newLength_cabcc_10 : decode cJ8_newLength_cabcc 10 = .ok (.if_icmp .ge 11, 3) := by decide +kernel
theorem dJ8_newLength_cabcc_13 : decode cJ8_newLength_cabcc 13 = .ok (.iload_n 3, 1) := by decide +kernel
theorem dJ8_newLength_cabcc_14 : decode cJ8_newLength_cabcc 14 = .ok (.ldc 200, 2) := by decide +kernel
theorem dJ8_newLength_cabcc_16 : decode cJ8_newLength_cabcc 16 = .ok (.if_icmp .gt 5, 3) := by decide +kernel
theorem dJ8_newLength_cabcc_19 : decode cJ8_newLength_cabcc 19 = .ok (.iload_n 3, 1) := by decide +kernel
theorem dJ8_newLength_cabcc_20 : decode cJ8_newLength_cabcc 20 = .ok (.ireturn, 1) := by decide +kernel
theorem dJ8_newLength_cabcc_21 : decode cJ8_newLength_cabcc 21 = .ok (.iload_n 0, 1) := by decide +kernel
theorem dJ8_newLength_cabcc_22 : decode cJ8_newLength_cabcc 22 = .ok (.iload_n 1, 1) := by decide +kernel
theorem dJ8_newLength_cabcc_23 : decode cJ8_newLength_cabcc 23 = .ok (.invokestatic 201, 3) := by decide +kernel
theorem dJ8_newLength_cabcc_26 : decode cJ8_newLength_cabcc 26 = .ok (.ireturn, 1) := by decide +kernel
theorem dJ8_hugeLength_7cf53_0 : decode cJ8_hugeLength_7cf53 0 = .ok (.iload_n 0, 1) := by decide +kernel
theorem dJ8_hugeLength_7cf53_1 : decode cJ8_hugeLength_7cf53 1 = .ok (.iload_n 1, 1) := by decide +kernel
theorem dJ8_hugeLength_7cf53_2 : decode cJ8_hugeLength_7cf53 2 = .ok (.iadd, 1) := by decide +kernel
theorem dJ8_hugeLength_7cf53_3 : decode cJ8_hugeLength_7cf53 3 = .ok (.istore_n 2, 1) := by decide +kernel
theorem dJ8_hugeLength_7cf53_4 : decode cJ8_hugeLength_7cf53 4 = .ok (.iload_n 2, 1) := by decide +kernel
theorem dJ8_hugeLength_7cf53_5 : decode cJ8_hugeLength_7cf53 5 = .ok (.ifCond .ge 44, 3) := by decide +kernel
theorem dJ8_hugeLength_7cf53_8 : decode cJ8_hugeLength_7cf53 8 = .ok (.new 204, 3) := by decide +kernel
theorem dJ8_hugeLength_7cf53_11 : decode cJ8_hugeLength_7cf53 11 = .ok (.dup, 1) := by decide +kernel
theorem dJ8_hugeLength_7cf53_12 : decode cJ8_hugeLength_7cf53 12 = .ok (.new 89, 3) := by decide +kernel
theorem dJ8_hugeLength_7cf53_15 : decode cJ8_hugeLength_7cf53 15 = .ok (.dup, 1) := by decide +kernel
theorem dJ8_hugeLength_7cf53_16 : decode cJ8_hugeLength_7cf53 16 = .ok (.invokespecial 91, 3) := by decide +kernel
theorem dJ8_hugeLength_7cf53_19 : decode cJ8_hugeLength_7cf53 19 = .ok (.ldc 206, 2) := by decide +kernel
theorem dJ8_hugeLength_7cf53_21 : decode cJ8_hugeLength_7cf53 21 = .ok (.invokevirtual 94, 3) := by decide +kernel
theorem dJ8_hugeLength_7cf53_24 : decode cJ8_hugeLength_7cf53 24 = .ok (.iload_n 0, 1) := by decide +kernel
theorem dJ8_hugeLength_7cf53_25 : decode cJ8_hugeLength_7cf53 25 = .ok (.invokevirtual 98, 3) := by decide +kernel
theorem dJ8_hugeLength_7cf53_28 : decode cJ8_hugeLength_7cf53 28 = .ok (.ldc 208, 2) := by decide +kernel
theorem dJ8_hugeLength_7cf53_30 : decode cJ8_hugeLength_7cf53 30 = .ok (.invokevirtual 94, 3) := by decide +kernel
theorem dJ8_hugeLength_7cf53_33 : decode cJ8_hugeLength_7cf53 33 = .ok (.iload_n 1, 1) := by decide +kernel
theorem dJ8_hugeLength_7cf53_34 : decode cJ8_hugeLength_7cf53 34 = .ok (.invokevirtual 98, 3) := by decide +kernel
theorem dJ8_hugeLength_7cf53_37 : decode cJ8_hugeLength_7cf53 37 = .ok (.ldc 210, 2) := by decide +kernel
theorem dJ8_hugeLength_7cf53_39 : decode cJ8_hugeLength_7cf53 39 = .ok (.invokevirtual 94, 3) := by decide +kernel
theorem dJ8_hugeLength_7cf53_42 : decode cJ8_hugeLength_7cf53 42 = .ok (.invokevirtual 101, 3) := by decide +kernel
theorem dJ8_hugeLength_7cf53_45 : decode cJ8_hugeLength_7cf53 45 = .ok (.invokespecial 212, 3) := by decide +kernel
theorem dJ8_hugeLength_7cf53_48 : decode cJ8_hugeLength_7cf53 48 = .ok (.athrow, 1) := by decide +kernel
theorem dJ8_hugeLength_7cf53_49 : decode cJ8_hugeLength_7cf53 49 = .ok (.iload_n 2, 1) := by decide +kernel
theorem dJ8_hugeLength_7cf53_50 : decode cJ8_hugeLength_7cf53 50 = .ok (.ldc 200, 2) := by decide +kernel
theorem dJ8_hugeLength_7cf53_52 : decode cJ8_hugeLength_7cf53 52 = .ok (.if_icmp .gt 6, 3) := by decide +kernel
theorem dJ8_hugeLength_7cf53_55 : decode cJ8_hugeLength_7cf53 55 = .ok (.ldc 200, 2) := by decide +kernel
theorem dJ8_hugeLength_7cf53_57 : decode cJ8_hugeLength_7cf53 57 = .ok (.ireturn, 1) := by decide +kernel
theorem dJ8_hugeLength_7cf53_58 : decode cJ8_hugeLength_7cf53 58 = .ok (.iload_n 2, 1) := by decide +kernel
theorem dJ8_hugeLength_7cf53_59 : decode cJ8_hugeLength_7cf53 59 = .ok (.ireturn, 1) := by decide +kernel
theorem dJ3_checkIndex_8e157_0 : decode cJ3_checkIndex_8e157 0 = .ok (.iload_n 0, 1) := by decide +kernel
theorem dJ3_checkIndex_8e157_1 : decode cJ3_checkIndex_8e157 1 = .ok (.ifCond .lt 8, 3) := by decide +kernel
theorem dJ3_checkIndex_8e157_4 : decode cJ3_checkIndex_8e157 4 = .ok (.iload_n 0, 1) := by decide +kernel
theorem dJ3_checkIndex_8e157_5 : decode cJ3_checkIndex_8e157 5 = .ok (.iload_n 1, 1) := by decide +kernel
theorem dJ3_checkIndex_8e157_6 : decode cJ3_checkIndex_8e157 6 = .ok (.if_icmp .lt 10, 3) := by decide +kernel
theorem dJ3_checkIndex_8e157_9 : decode cJ3_checkIndex_8e157 9 = .ok (.aload_n 2, 1) := by decide +kernel
theorem dJ3_checkIndex_8e157_10 : decode cJ3_checkIndex_8e157 10 = .ok (.iload_n 0, 1) := by decide +kernel
theorem dJ3_checkIndex_8e157_11 : decode cJ3_checkIndex_8e157 11 = .ok (.iload_n 1, 1) := by decide +kernel
theorem dJ3_checkIndex_8e157_12 : decode cJ3_checkIndex_8e157 12 = .ok (.invokestatic 95, 3) := by decide +kernel
theorem dJ3_checkIndex_8e157_15 : decode cJ3_checkIndex_8e157 15 = .ok (.athrow, 1) := by decide +kernel
theorem dJ3_checkIndex_8e157_16 : decode cJ3_checkIndex_8e157 16 = .ok (.iload_n 0, 1) := by decide +kernel
theorem dJ3_checkIndex_8e157_17 : decode cJ3_checkIndex_8e157 17 = .ok (.ireturn, 1) := by decide +kernel
theorem dJ3_checkFromToIndex_8c36e_0 : decode cJ3_checkFromToIndex_8c36e 0 = .ok (.iload_n 0, 1) := by decide +kernel
theorem dJ3_checkFromToIndex_8c36e_1 : decode cJ3_checkFromToIndex_8c36e 1 = .ok (.ifCond .lt 13, 3) := by decide +kernel
theorem dJ3_checkFromToIndex_8c36e_4 : decode cJ3_checkFromToIndex_8c36e 4 = .ok (.iload_n 0, 1) := by decide +kernel
theorem dJ3_checkFromToIndex_8c36e_5 : decode cJ3_checkFromToIndex_8c36e 5 = .ok (.iload_n 1, 1) := by decide +kernel
theorem dJ3_checkFromToIndex_8c36e_6 : decode cJ3_checkFromToIndex_8c36e 6 = .ok (.if_icmp .gt 8, 3) := by decide +kernel
theorem dJ3_checkFromToIndex_8c36e_9 : decode cJ3_checkFromToIndex_8c36e 9 = .ok (.iload_n 1, 1) := by decide +kernel
theorem dJ3_checkFromToIndex_8c36e_10 : decode cJ3_checkFromToIndex_8c36e 10 = .ok (.iload_n 2, 1) := by decide +kernel
theorem dJ3_checkFromToIndex_8c36e_11 : decode cJ3_checkFromToIndex_8c36e 11 = .ok (.if_icmp .le 11, 3) := by decide +kernel
theorem dJ3_checkFromToIndex_8c36e_14 : decode cJ3_checkFromToIndex_8c36e 14 = .ok (.aload_n 3, 1) := by decide +kernel
theorem dJ3_checkFromToIndex_8c36e_15 : decode cJ3_checkFromToIndex_8c36e 15 = .ok (.iload_n 0, 1) := by decide +kernel
theorem dJ3_checkFromToIndex_8c36e_16 : decode cJ3_checkFromToIndex_8c36e 16 = .ok (.iload_n 1, 1) := by decide +kernel
theorem dJ3_checkFromToIndex_8c36e_17 : decode cJ3_checkFromToIndex_8c36e 17 = .ok (.iload_n 2, 1) := by decide +kernel
theorem dJ3_checkFromToIndex_8c36e_18 : decode cJ3_checkFromToIndex_8c36e 18 = .ok (.invokestatic 99, 3) := by decide +kernel
theorem dJ3_checkFromToIndex_8c36e_21 : decode cJ3_checkFromToIndex_8c36e 21 = .ok (.athrow, 1) := by decide +kernel
theorem dJ3_checkFromToIndex_8c36e_22 : decode cJ3_checkFromToIndex_8c36e 22 = .ok (.iload_n 0, 1) := by decide +kernel
theorem dJ3_checkFromToIndex_8c36e_23 : decode cJ3_checkFromToIndex_8c36e 23 = .ok (.ireturn, 1) := by decide +kernel
theorem dJ3_checkFromIndexSize_8c36e_0 : decode cJ3_checkFromIndexSize_8c36e 0 = .ok (.iload_n 2, 1) := by decide +kernel
theorem dJ3_checkFromIndexSize_8c36e_1 : decode cJ3_checkFromIndexSize_8c36e 1 = .ok (.iload_n 0, 1) := by decide +kernel
theorem dJ3_checkFromIndexSize_8c36e_2 : decode cJ3_checkFromIndexSize_8c36e 2 = .ok (.ior, 1) := by decide +kernel
theorem dJ3_checkFromIndexSize_8c36e_3 : decode cJ3_checkFromIndexSize_8c36e 3 = .ok (.iload_n 1, 1) := by decide +kernel
theorem dJ3_checkFromIndexSize_8c36e_4 : decode cJ3_checkFromIndexSize_8c36e 4 = .ok (.ior, 1) := by decide +kernel
theorem dJ3_checkFromIndexSize_8c36e_5 : decode cJ3_checkFromIndexSize_8c36e 5 = .ok (.ifCond .lt 10, 3) := by decide +kernel
theorem dJ3_checkFromIndexSize_8c36e_8 : decode cJ3_checkFromIndexSize_8c36e 8 = .ok (.iload_n 1, 1) := by decide +kernel
theorem dJ3_checkFromIndexSize_8c36e_9 : decode cJ3_checkFromIndexSize_8c36e 9 = .ok (.iload_n 2, 1) := by decide +kernel
theorem dJ3_checkFromIndexSize_8c36e_10 : decode cJ3_checkFromIndexSize_8c36e 10 = .ok (.iload_n 0, 1) := by decide +kernel
theorem dJ3_checkFromIndexSize_8c36e_11 : decode cJ3_checkFromIndexSize_8c36e 11 = .ok (.isub, 1) := by decide +kernel
theorem dJ3_checkFromIndexSize_8c36e_12 : decode cJ3_checkFromIndexSize_8c36e 12 = .ok (.if_icmp .le 11, 3) := by decide +kernel
theorem dJ3_checkFromIndexSize_8c36e_15 : decode cJ3_checkFromIndexSize_8c36e 15 = .ok (.aload_n 3, 1) := by decide +kernel
theorem dJ3_checkFromIndexSize_8c36e_16 : decode cJ3_checkFromIndexSize_8c36e 16 = .ok (.iload_n 0, 1) := by decide +kernel
theorem dJ3_checkFromIndexSize_8c36e_17 : decode cJ3_checkFromIndexSize_8c36e 17 = .ok (.iload_n 1, 1) := by decide +kernel
theorem dJ3_checkFromIndexSize_8c36e_18 : decode cJ3_checkFromIndexSize_8c36e 18 = .ok (.iload_n 2, 1) := by decide +kernel
theorem dJ3_checkFromIndexSize_8c36e_19 : decode cJ3_checkFromIndexSize_8c36e 19 = .ok (.invokestatic 103, 3) := by decide +kernel
theorem dJ3_checkFromIndexSize_8c36e_22 : decode cJ3_checkFromIndexSize_8c36e 22 = .ok (.athrow, 1) := by decide +kernel
theorem dJ3_checkFromIndexSize_8c36e_23 : decode cJ3_checkFromIndexSize_8c36e 23 = .ok (.iload_n 0, 1) := by decide +kernel
theorem dJ3_checkFromIndexSize_8c36e_24 : decode cJ3_checkFromIndexSize_8c36e 24 = .ok (.ireturn, 1) := by decide +kernel
