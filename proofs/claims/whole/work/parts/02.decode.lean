theorem dX0_init_0 : decode cX0_init 0 = .ok (.aload_n 0, 1) := by decide +kernel
theorem dX0_init_1 : decode cX0_init 1 = .ok (.invokespecial 3, 3) := by decide +kernel
theorem dX0_init_4 : decode cX0_init 4 = .ok (.aload_n 0, 1) := by decide +kernel
theorem dX0_init_5 : decode cX0_init 5 = .ok (.bipush 20, 2) := by decide +kernel
theorem dX0_init_7 : decode cX0_init 7 = .ok (.newarray .int, 2) := by decide +kernel
theorem dX0_init_9 : decode cX0_init 9 = .ok (.putfield 9, 3) := by decide +kernel
theorem dX0_init_12 : decode cX0_init 12 = .ok (.aload_n 0, 1) := by decide +kernel
theorem dX0_init_13 : decode cX0_init 13 = .ok (.iconst 4, 1) := by decide +kernel
theorem dX0_init_14 : decode cX0_init 14 = .ok (.newarray .int, 2) := by decide +kernel
theorem dX0_init_16 : decode cX0_init 16 = .ok (.putfield 15, 3) := by decide +kernel
theorem dX0_init_19 : decode cX0_init 19 = .ok (.return_, 1) := by decide +kernel
theorem dX0_takeFrom_0 : decode cX0_takeFrom 0 = .ok (.iconst 0, 1) := by decide +kernel
theorem dX0_takeFrom_1 : decode cX0_takeFrom 1 = .ok (.istore_n 2, 1) := by decide +kernel
theorem dX0_takeFrom_2 : decode cX0_takeFrom 2 = .ok (.iload_n 2, 1) := by decide +kernel
theorem dX0_takeFrom_3 : decode cX0_takeFrom 3 = .ok (.aload_n 0, 1) := by decide +kernel
theorem dX0_takeFrom_4 : decode cX0_takeFrom 4 = .ok (.getfield 9, 3) := by decide +kernel
theorem dX0_takeFrom_7 : decode cX0_takeFrom 7 = .ok (.arraylength, 1) := by decide +kernel
theorem dX0_takeFrom_8 : decode cX0_takeFrom 8 = .ok (.if_icmp .ge 34, 3) := by decide +kernel
theorem dX0_takeFrom_11 : decode cX0_takeFrom 11 = .ok (.aload_n 0, 1) := by decide +kernel
theorem dX0_takeFrom_12 : decode cX0_takeFrom 12 = .ok (.getfield 9, 3) := by decide +kernel
theorem dX0_takeFrom_15 : decode cX0_takeFrom 15 = .ok (.iload_n 2, 1) := by decide +kernel
theorem dX0_takeFrom_16 : decode cX0_takeFrom 16 = .ok (.aload_n 1, 1) := by decide +kernel
theorem dX0_takeFrom_17 : decode cX0_takeFrom 17 = .ok (.iload_n 2, 1) := by decide +kernel
theorem dX0_takeFrom_18 : decode cX0_takeFrom 18 = .ok (.invokevirtual 18, 3) := by decide +kernel
theorem dX0_takeFrom_21 : decode cX0_takeFrom 21 = .ok (.iconst 2, 1) := by decide +kernel
theorem dX0_takeFrom_22 : decode cX0_takeFrom 22 = .ok (.if_icmp .ne 11, 3) := by decide +kernel
theorem dX0_takeFrom_25 : decode cX0_takeFrom 25 = .ok (.aload_n 1, 1) := by decide +kernel
theorem dX0_takeFrom_26 : decode cX0_takeFrom 26 = .ok (.iload_n 2, 1) := by decide +kernel
theorem dX0_takeFrom_27 : decode cX0_takeFrom 27 = .ok (.invokevirtual 24, 3) := by decide +kernel
theorem dX0_takeFrom_30 : decode cX0_takeFrom 30 = .ok (.goto 5, 3) := by decide +kernel
theorem dX0_takeFrom_33 : decode cX0_takeFrom 33 = .ok (.bipush (-2), 2) := by decide +kernel
theorem dX0_takeFrom_35 : decode cX0_takeFrom 35 = .ok (.iastore, 1) := by decide +kernel
theorem dX0_takeFrom_36 : decode cX0_takeFrom 36 = .ok (.iinc 2 1, 3) := by decide +kernel
theorem dX0_takeFrom_39 : decode cX0_takeFrom 39 = .ok (.goto (-37), 3) := by decide +kernel
theorem dX0_takeFrom_42 : decode cX0_takeFrom 42 = .ok (.return_, 1) := by decide +kernel
theorem dX0_put_0 : decode cX0_put 0 = .ok (.aload_n 0, 1) := by decide +kernel
theorem dX0_put_1 : decode cX0_put 1 = .ok (.getfield 9, 3) := by decide +kernel
theorem dX0_put_4 : decode cX0_put 4 = .ok (.iload_n 1, 1) := by decide +kernel
theorem dX0_put_5 : decode cX0_put 5 = .ok (.iload_n 2, 1) := by decide +kernel
theorem dX0_put_6 : decode cX0_put 6 = .ok (.invokestatic 26, 3) := by decide +kernel
theorem dX0_put_9 : decode cX0_put 9 = .ok (.return_, 1) := by decide +kernel
theorem dX0_leaveOut_0 : decode cX0_leaveOut 0 = .ok (.aload_n 0, 1) := by decide +kernel
theorem dX0_leaveOut_1 : decode cX0_leaveOut 1 = .ok (.getfield 9, 3) := by decide +kernel
theorem dX0_leaveOut_4 : decode cX0_leaveOut 4 = .ok (.iload_n 1, 1) := by decide +kernel
theorem dX0_leaveOut_5 : decode cX0_leaveOut 5 = .ok (.bipush (-2), 2) := by decide +kernel
theorem dX0_leaveOut_7 : decode cX0_leaveOut 7 = .ok (.invokestatic 26, 3) := by decide +kernel
theorem dX0_leaveOut_10 : decode cX0_leaveOut 10 = .ok (.return_, 1) := by decide +kernel
theorem dX0_result_0 : decode cX0_result 0 = .ok (.aload_n 0, 1) := by decide +kernel
theorem dX0_result_1 : decode cX0_result 1 = .ok (.invokevirtual 30, 3) := by decide +kernel
theorem dX0_result_4 : decode cX0_result 4 = .ok (.iload_n 1, 1) := by decide +kernel
theorem dX0_result_5 : decode cX0_result 5 = .ok (.if_icmp .ge 6, 3) := by decide +kernel
theorem dX0_result_8 : decode cX0_result 8 = .ok (.bipush (-2), 2) := by decide +kernel
theorem dX0_result_10 : decode cX0_result 10 = .ok (.ireturn, 1) := by decide +kernel
theorem dX0_result_11 : decode cX0_result 11 = .ok (.iconst 1, 1) := by decide +kernel
theorem dX0_result_12 : decode cX0_result 12 = .ok (.istore_n 2, 1) := by decide +kernel
theorem dX0_result_13 : decode cX0_result 13 = .ok (.iconst 0, 1) := by decide +kernel
theorem dX0_result_14 : decode cX0_result 14 = .ok (.istore_n 3, 1) := by decide +kernel
theorem dX0_result_15 : decode cX0_result 15 = .ok (.iload_n 3, 1) := by decide +kernel
theorem dX0_result_16 : decode cX0_result 16 = .ok (.aload_n 0, 1) := by decide +kernel
theorem dX0_result_17 : decode cX0_result 17 = .ok (.getfield 15, 3) := by decide +kernel
theorem dX0_result_20 : decode cX0_result 20 = .ok (.arraylength, 1) := by decide +kernel
theorem dX0_result_21 : decode cX0_result 21 = .ok (.if_icmp .ge 20, 3) := by decide +kernel
theorem dX0_result_24 : decode cX0_result 24 = .ok (.iload_n 2, 1) := by decide +kernel
theorem dX0_result_25 : decode cX0_result 25 = .ok (.aload_n 0, 1) := by decide +kernel
theorem dX0_result_26 : decode cX0_result 26 = .ok (.getfield 15, 3) := by decide +kernel
theorem dX0_result_29 : decode cX0_result 29 = .ok (.iload_n 3, 1) := by decide +kernel
theorem dX0_result_30 : decode cX0_result 30 = .ok (.iaload, 1) := by decide +kernel
theorem dX0_result_31 : decode cX0_result 31 = .ok (.invokestatic 34, 3) := by decide +kernel
theorem dX0_result_34 : decode cX0_result 34 = .ok (.istore_n 2, 1) := by decide +kernel
theorem dX0_result_35 : decode cX0_result 35 = .ok (.iinc 3 1, 3) := by decide +kernel
theorem dX0_result_38 : decode cX0_result 38 = .ok (.goto (-23), 3) := by decide +kernel
theorem dX0_result_41 : decode cX0_result 41 = .ok (.iconst 0, 1) := by decide +kernel
theorem dX0_result_42 : decode cX0_result 42 = .ok (.istore_n 3, 1) := by decide +kernel
theorem dX0_result_43 : decode cX0_result 43 = .ok (.iload_n 3, 1) := by decide +kernel
theorem dX0_result_44 : decode cX0_result 44 = .ok (.aload_n 0, 1) := by decide +kernel
theorem dX0_result_45 : decode cX0_result 45 = .ok (.getfield 9, 3) := by decide +kernel
theorem dX0_result_48 : decode cX0_result 48 = .ok (.arraylength, 1) := by decide +kernel
theorem dX0_result_49 : decode cX0_result 49 = .ok (.if_icmp .ge 34, 3) := by decide +kernel
theorem dX0_result_52 : decode cX0_result 52 = .ok (.aload_n 0, 1) := by decide +kernel
theorem dX0_result_53 : decode cX0_result 53 = .ok (.getfield 15, 3) := by decide +kernel
theorem dX0_result_56 : decode cX0_result 56 = .ok (.aload_n 0, 1) := by decide +kernel
theorem dX0_result_57 : decode cX0_result 57 = .ok (.getfield 9, 3) := by decide +kernel
theorem dX0_result_60 : decode cX0_result 60 = .ok (.iload_n 3, 1) := by decide +kernel
theorem dX0_result_61 : decode cX0_result 61 = .ok (.iaload, 1) := by decide +kernel
theorem dX0_result_62 : decode cX0_result 62 = .ok (.iconst 0, 1) := by decide +kernel
theorem dX0_result_63 : decode cX0_result 63 = .ok (.invokestatic 40, 3) := by decide +kernel
theorem dX0_result_66 : decode cX0_result 66 = .ok (.iload_n 2, 1) := by decide +kernel
theorem dX0_result_67 : decode cX0_result 67 = .ok (.if_icmp .ne 10, 3) := by decide +kernel
theorem dX0_result_70 : decode cX0_result 70 = .ok (.aload_n 0, 1) := by decide +kernel
theorem dX0_result_71 : decode cX0_result 71 = .ok (.getfield 9, 3) := by decide +kernel
theorem dX0_result_74 : decode cX0_result 74 = .ok (.iload_n 3, 1) := by decide +kernel
theorem dX0_result_75 : decode cX0_result 75 = .ok (.iaload, 1) := by decide +kernel
theorem dX0_result_76 : decode cX0_result 76 = .ok (.ireturn, 1) := by decide +kernel
theorem dX0_result_77 : decode cX0_result 77 = .ok (.iinc 3 1, 3) := by decide +kernel
theorem dX0_result_80 : decode cX0_result 80 = .ok (.goto (-37), 3) := by decide +kernel
theorem dX0_result_83 : decode cX0_result 83 = .ok (.bipush (-2), 2) := by decide +kernel
theorem dX0_result_85 : decode cX0_result 85 = .ok (.ireturn, 1) := by decide +kernel
theorem dX0_countAll_0 : decode cX0_countAll 0 = .ok (.iconst 0, 1) := by decide +kernel
theorem dX0_countAll_1 : decode cX0_countAll 1 = .ok (.istore_n 1, 1) := by decide +kernel
theorem dX0_countAll_2 : decode cX0_countAll 2 = .ok (.aload_n 0, 1) := by decide +kernel
theorem dX0_countAll_3 : decode cX0_countAll 3 = .ok (.getfield 15, 3) := by decide +kernel
theorem dX0_countAll_6 : decode cX0_countAll 6 = .ok (.iconst 0, 1) := by decide +kernel
theorem dX0_countAll_7 : decode cX0_countAll 7 = .ok (.invokestatic 44, 3) := by decide +kernel
theorem dX0_countAll_10 : decode cX0_countAll 10 = .ok (.iconst 0, 1) := by decide +kernel
theorem dX0_countAll_11 : decode cX0_countAll 11 = .ok (.istore_n 2, 1) := by decide +kernel
theorem dX0_countAll_12 : decode cX0_countAll 12 = .ok (.iload_n 2, 1) := by decide +kernel
theorem dX0_countAll_13 : decode cX0_countAll 13 = .ok (.aload_n 0, 1) := by decide +kernel
theorem dX0_countAll_14 : decode cX0_countAll 14 = .ok (.getfield 9, 3) := by decide +kernel
theorem dX0_countAll_17 : decode cX0_countAll 17 = .ok (.arraylength, 1) := by decide +kernel
theorem dX0_countAll_18 : decode cX0_countAll 18 = .ok (.if_icmp .ge 48, 3) := by decide +kernel
theorem dX0_countAll_21 : decode cX0_countAll 21 = .ok (.aload_n 0, 1) := by decide +kernel
theorem dX0_countAll_22 : decode cX0_countAll 22 = .ok (.getfield 9, 3) := by decide +kernel
theorem dX0_countAll_25 : decode cX0_countAll 25 = .ok (.iload_n 2, 1) := by decide +kernel
theorem dX0_countAll_26 : decode cX0_countAll 26 = .ok (.iaload, 1) := by decide +kernel
theorem dX0_countAll_27 : decode cX0_countAll 27 = .ok (.istore_n 3, 1) := by decide +kernel
theorem dX0_countAll_28 : decode cX0_countAll 28 = .ok (.iload_n 3, 1) := by decide +kernel
theorem dX0_countAll_29 : decode cX0_countAll 29 = .ok (.invokestatic 48, 3) := by decide +kernel
theorem dX0_countAll_32 : decode cX0_countAll 32 = .ok (.ifCond .ne 6, 3) := by decide +kernel
theorem dX0_countAll_35 : decode cX0_countAll 35 = .ok (.goto 25, 3) := by decide +kernel
theorem dX0_countAll_38 : decode cX0_countAll 38 = .ok (.aload_n 0, 1) := by decide +kernel
theorem dX0_countAll_39 : decode cX0_countAll 39 = .ok (.getfield 15, 3) := by decide +kernel
theorem dX0_countAll_42 : decode cX0_countAll 42 = .ok (.iload_n 3, 1) := by decide +kernel
theorem dX0_countAll_43 : decode cX0_countAll 43 = .ok (.aload_n 0, 1) := by decide +kernel
theorem dX0_countAll_44 : decode cX0_countAll 44 = .ok (.getfield 15, 3) := by decide +kernel
theorem dX0_countAll_47 : decode cX0_countAll 47 = .ok (.iload_n 3, 1) := by decide +kernel
theorem dX0_countAll_48 : decode cX0_countAll 48 = .ok (.iconst 0, 1) := by decide +kernel
theorem dX0_countAll_49 : decode cX0_countAll 49 = .ok (.invokestatic 40, 3) := by decide +kernel
theorem dX0_countAll_52 : decode cX0_countAll 52 = .ok (.iconst 1, 1) := by decide +kernel
theorem dX0_countAll_53 : decode cX0_countAll 53 = .ok (.iadd, 1) := by decide +kernel
theorem dX0_countAll_54 : decode cX0_countAll 54 = .ok (.invokestatic 26, 3) := by decide +kernel
theorem dX0_countAll_57 : decode cX0_countAll 57 = .ok (.iinc 1 1, 3) := by decide +kernel
theorem dX0_countAll_60 : decode cX0_countAll 60 = .ok (.iinc 2 1, 3) := by decide +kernel
theorem dX0_countAll_63 : decode cX0_countAll 63 = .ok (.goto (-51), 3) := by decide +kernel
theorem dX0_countAll_66 : decode cX0_countAll 66 = .ok (.iload_n 1, 1) := by decide +kernel
theorem dX0_countAll_67 : decode cX0_countAll 67 = .ok (.ireturn, 1) := by decide +kernel
theorem dX1_init_0 : decode cX1_init 0 = .ok (.aload_n 0, 1) := by decide +kernel
theorem dX1_init_1 : decode cX1_init 1 = .ok (.invokespecial 3, 3) := by decide +kernel
theorem dX1_init_4 : decode cX1_init 4 = .ok (.aload_n 0, 1) := by decide +kernel
theorem dX1_init_5 : decode cX1_init 5 = .ok (.iload_n 1, 1) := by decide +kernel
theorem dX1_init_6 : decode cX1_init 6 = .ok (.iconst 0, 1) := by decide +kernel
theorem dX1_init_7 : decode cX1_init 7 = .ok (.invokestatic 9, 3) := by decide +kernel
theorem dX1_init_10 : decode cX1_init 10 = .ok (.newarray .byte, 2) := by decide +kernel
theorem dX1_init_12 : decode cX1_init 12 = .ok (.putfield 15, 3) := by decide +kernel
theorem dX1_init_15 : decode cX1_init 15 = .ok (.return_, 1) := by decide +kernel
theorem dX1_length_0 : decode cX1_length 0 = .ok (.aload_n 0, 1) := by decide +kernel
theorem dX1_length_1 : decode cX1_length 1 = .ok (.getfield 21, 3) := by decide +kernel
theorem dX1_length_4 : decode cX1_length 4 = .ok (.ireturn, 1) := by decide +kernel
theorem dX1_at_0 : decode cX1_at 0 = .ok (.iload_n 1, 1) := by decide +kernel
theorem dX1_at_1 : decode cX1_at 1 = .ok (.ifCond .lt 33, 3) := by decide +kernel
theorem dX1_at_4 : decode cX1_at 4 = .ok (.iload_n 1, 1) := by decide +kernel
theorem dX1_at_5 : decode cX1_at 5 = .ok (.aload_n 0, 1) := by decide +kernel
theorem dX1_at_6 : decode cX1_at 6 = .ok (.getfield 21, 3) := by decide +kernel
theorem dX1_at_9 : decode cX1_at 9 = .ok (.if_icmp .ge 25, 3) := by decide +kernel
theorem dX1_at_12 : decode cX1_at 12 = .ok (.iload_n 1, 1) := by decide +kernel
theorem dX1_at_13 : decode cX1_at 13 = .ok (.aload_n 0, 1) := by decide +kernel
theorem dX1_at_14 : decode cX1_at 14 = .ok (.getfield 15, 3) := by decide +kernel
theorem dX1_at_17 : decode cX1_at 17 = .ok (.arraylength, 1) := by decide +kernel
theorem dX1_at_18 : decode cX1_at 18 = .ok (.if_icmp .ge 16, 3) := by decide +kernel
theorem dX1_at_21 : decode cX1_at 21 = .ok (.aload_n 0, 1) := by decide +kernel
theorem dX1_at_22 : decode cX1_at 22 = .ok (.getfield 15, 3) := by decide +kernel
theorem dX1_at_25 : decode cX1_at 25 = .ok (.iload_n 1, 1) := by decide +kernel
theorem dX1_at_26 : decode cX1_at 26 = .ok (.baload, 1) := by decide +kernel
theorem dX1_at_27 : decode cX1_at 27 = .ok (.sipush 255, 3) := by decide +kernel
theorem dX1_at_30 : decode cX1_at 30 = .ok (.iand, 1) := by decide +kernel
theorem dX1_at_31 : decode cX1_at 31 = .ok (.goto 5, 3) := by decide +kernel
theorem dX1_at_34 : decode cX1_at 34 = .ok (.bipush (-2), 2) := by decide +kernel
theorem dX1_at_36 : decode cX1_at 36 = .ok (.ireturn, 1) := by decide +kernel
theorem dX1_cutTo_0 : decode cX1_cutTo 0 = .ok (.iload_n 1, 1) := by decide +kernel
theorem dX1_cutTo_1 : decode cX1_cutTo 1 = .ok (.ifCond .lt 16, 3) := by decide +kernel
theorem dX1_cutTo_4 : decode cX1_cutTo 4 = .ok (.iload_n 1, 1) := by decide +kernel
theorem dX1_cutTo_5 : decode cX1_cutTo 5 = .ok (.aload_n 0, 1) := by decide +kernel
theorem dX1_cutTo_6 : decode cX1_cutTo 6 = .ok (.getfield 21, 3) := by decide +kernel
theorem dX1_cutTo_9 : decode cX1_cutTo 9 = .ok (.if_icmp .gt 8, 3) := by decide +kernel
theorem dX1_cutTo_12 : decode cX1_cutTo 12 = .ok (.aload_n 0, 1) := by decide +kernel
theorem dX1_cutTo_13 : decode cX1_cutTo 13 = .ok (.iload_n 1, 1) := by decide +kernel
theorem dX1_cutTo_14 : decode cX1_cutTo 14 = .ok (.putfield 21, 3) := by decide +kernel
theorem dX1_cutTo_17 : decode cX1_cutTo 17 = .ok (.return_, 1) := by decide +kernel
theorem dX1_add_0 : decode cX1_add 0 = .ok (.aload_n 0, 1) := by decide +kernel
theorem dX1_add_1 : decode cX1_add 1 = .ok (.getfield 21, 3) := by decide +kernel
theorem dX1_add_4 : decode cX1_add 4 = .ok (.ifCond .lt 15, 3) := by decide +kernel
theorem dX1_add_7 : decode cX1_add 7 = .ok (.aload_n 0, 1) := by decide +kernel
theorem dX1_add_8 : decode cX1_add 8 = .ok (.getfield 21, 3) := by decide +kernel
theorem dX1_add_11 : decode cX1_add 11 = .ok (.aload_n 0, 1) := by decide +kernel
theorem dX1_add_12 : decode cX1_add 12 = .ok (.getfield 15, 3) := by decide +kernel
theorem dX1_add_15 : decode cX1_add 15 = .ok (.arraylength, 1) := by decide +kernel
theorem dX1_add_16 : decode cX1_add 16 = .ok (.if_icmp .lt 4, 3) := by decide +kernel
theorem dX1_add_19 : decode cX1_add 19 = .ok (.return_, 1) := by decide +kernel
theorem dX1_add_20 : decode cX1_add 20 = .ok (.aload_n 0, 1) := by decide +kernel
theorem dX1_add_21 : decode cX1_add 21 = .ok (.getfield 15, 3) := by decide +kernel
theorem dX1_add_24 : decode cX1_add 24 = .ok (.aload_n 0, 1) := by decide +kernel
theorem dX1_add_25 : decode cX1_add 25 = .ok (.getfield 21, 3) := by decide +kernel
theorem dX1_add_28 : decode cX1_add 28 = .ok (.iload_n 1, 1) := by decide +kernel
theorem dX1_add_29 : decode cX1_add 29 = .ok (.i2b, 1) := by decide +kernel
theorem dX1_add_30 : decode cX1_add 30 = .ok (.bastore, 1) := by decide +kernel
theorem dX1_add_31 : decode cX1_add 31 = .ok (.aload_n 0, 1) := by decide +kernel
theorem dX1_add_32 : decode cX1_add 32 = .ok (.dup, 1) := by decide +kernel
theorem dX1_add_33 : decode cX1_add 33 = .ok (.getfield 21, 3) := by decide +kernel
theorem dX1_add_36 : decode cX1_add 36 = .ok (.iconst 1, 1) := by decide +kernel
theorem dX1_add_37 : decode cX1_add 37 = .ok (.iadd, 1) := by decide +kernel
theorem dX1_add_38 : decode cX1_add 38 = .ok (.putfield 21, 3) := by decide +kernel
theorem dX1_add_41 : decode cX1_add 41 = .ok (.return_, 1) := by decide +kernel
theorem dX1_addWhole_0 : decode cX1_addWhole 0 = .ok (.bipush 24, 2) := by decide +kernel
theorem dX1_addWhole_2 : decode cX1_addWhole 2 = .ok (.istore_n 2, 1) := by decide +kernel
theorem dX1_addWhole_3 : decode cX1_addWhole 3 = .ok (.iload_n 2, 1) := by decide +kernel
theorem dX1_addWhole_4 : decode cX1_addWhole 4 = .ok (.ifCond .lt 16, 3) := by decide +kernel
theorem dX1_addWhole_7 : decode cX1_addWhole 7 = .ok (.aload_n 0, 1) := by decide +kernel
theorem dX1_addWhole_8 : decode cX1_addWhole 8 = .ok (.iload_n 1, 1) := by decide +kernel
theorem dX1_addWhole_9 : decode cX1_addWhole 9 = .ok (.iload_n 2, 1) := by decide +kernel
theorem dX1_addWhole_10 : decode cX1_addWhole 10 = .ok (.iushr, 1) := by decide +kernel
theorem dX1_addWhole_11 : decode cX1_addWhole 11 = .ok (.invokevirtual 25, 3) := by decide +kernel
theorem dX1_addWhole_14 : decode cX1_addWhole 14 = .ok (.iinc 2 (-8), 3) := by decide +kernel
theorem dX1_addWhole_17 : decode cX1_addWhole 17 = .ok (.goto (-14), 3) := by decide +kernel
theorem dX1_addWhole_20 : decode cX1_addWhole 20 = .ok (.return_, 1) := by decide +kernel
theorem dX1_addText_0 : decode cX1_addText 0 = .ok (.iconst 0, 1) := by decide +kernel
theorem dX1_addText_1 : decode cX1_addText 1 = .ok (.istore_n 2, 1) := by decide +kernel
theorem dX1_addText_2 : decode cX1_addText 2 = .ok (.iload_n 2, 1) := by decide +kernel
theorem dX1_addText_3 : decode cX1_addText 3 = .ok (.aload_n 1, 1) := by decide +kernel
theorem dX1_addText_4 : decode cX1_addText 4 = .ok (.invokevirtual 29, 3) := by decide +kernel
theorem dX1_addText_7 : decode cX1_addText 7 = .ok (.if_icmp .ge 18, 3) := by decide +kernel
theorem dX1_addText_10 : decode cX1_addText 10 = .ok (.aload_n 0, 1) := by decide +kernel
theorem dX1_addText_11 : decode cX1_addText 11 = .ok (.aload_n 1, 1) := by decide +kernel
theorem dX1_addText_12 : decode cX1_addText 12 = .ok (.iload_n 2, 1) := by decide +kernel
theorem dX1_addText_13 : decode cX1_addText 13 = .ok (.invokevirtual 34, 3) := by decide +kernel
theorem dX1_addText_16 : decode cX1_addText 16 = .ok (.invokevirtual 25, 3) := by decide +kernel
theorem dX1_addText_19 : decode cX1_addText 19 = .ok (.iinc 2 1, 3) := by decide +kernel
theorem dX1_addText_22 : decode cX1_addText 22 = .ok (.goto (-20), 3) := by decide +kernel
theorem dX1_addText_25 : decode cX1_addText 25 = .ok (.return_, 1) := by decide +kernel
theorem dX1_addName_0 : decode cX1_addName 0 = .ok (.bipush 25, 2) := by decide +kernel
theorem dX1_addName_2 : decode cX1_addName 2 = .ok (.istore_n 2, 1) := by decide +kernel
theorem dX1_addName_3 : decode cX1_addName 3 = .ok (.iload_n 2, 1) := by decide +kernel
theorem dX1_addName_4 : decode cX1_addName 4 = .ok (.ifCond .lt 30, 3) := by decide +kernel
theorem dX1_addName_7 : decode cX1_addName 7 = .ok (.iload_n 1, 1) := by decide +kernel
theorem dX1_addName_8 : decode cX1_addName 8 = .ok (.iload_n 2, 1) := by decide +kernel
theorem dX1_addName_9 : decode cX1_addName 9 = .ok (.ishr, 1) := by decide +kernel
theorem dX1_addName_10 : decode cX1_addName 10 = .ok (.bipush 31, 2) := by decide +kernel
theorem dX1_addName_12 : decode cX1_addName 12 = .ok (.iand, 1) := by decide +kernel
theorem dX1_addName_13 : decode cX1_addName 13 = .ok (.istore_n 3, 1) := by decide +kernel
theorem dX1_addName_14 : decode cX1_addName 14 = .ok (.iload_n 3, 1) := by decide +kernel
theorem dX1_addName_15 : decode cX1_addName 15 = .ok (.ifCond .eq 13, 3) := by decide +kernel
theorem dX1_addName_18 : decode cX1_addName 18 = .ok (.aload_n 0, 1) := by decide +kernel
theorem dX1_addName_19 : decode cX1_addName 19 = .ok (.bipush 97, 2) := by decide +kernel
theorem dX1_addName_21 : decode cX1_addName 21 = .ok (.iload_n 3, 1) := by decide +kernel
theorem dX1_addName_22 : decode cX1_addName 22 = .ok (.iadd, 1) := by decide +kernel
theorem dX1_addName_23 : decode cX1_addName 23 = .ok (.iconst 1, 1) := by decide +kernel
theorem dX1_addName_24 : decode cX1_addName 24 = .ok (.isub, 1) := by decide +kernel
theorem dX1_addName_25 : decode cX1_addName 25 = .ok (.invokevirtual 25, 3) := by decide +kernel
theorem dX1_addName_28 : decode cX1_addName 28 = .ok (.iinc 2 (-5), 3) := by decide +kernel
theorem dX1_addName_31 : decode cX1_addName 31 = .ok (.goto (-28), 3) := by decide +kernel
theorem dX1_addName_34 : decode cX1_addName 34 = .ok (.return_, 1) := by decide +kernel
theorem dX1_addNumber_0 : decode cX1_addNumber 0 = .ok (.iload_n 1, 1) := by decide +kernel
theorem dX1_addNumber_1 : decode cX1_addNumber 1 = .ok (.i2l, 1) := by decide +kernel
theorem dX1_addNumber_2 : decode cX1_addNumber 2 = .ok (.lstore_n 2, 1) := by decide +kernel
theorem dX1_addNumber_3 : decode cX1_addNumber 3 = .ok (.lload_n 2, 1) := by decide +kernel
theorem dX1_addNumber_4 : decode cX1_addNumber 4 = .ok (.lconst 0, 1) := by decide +kernel
theorem dX1_addNumber_5 : decode cX1_addNumber 5 = .ok (.lcmp, 1) := by decide +kernel
theorem dX1_addNumber_6 : decode cX1_addNumber 6 = .ok (.ifCond .ge 12, 3) := by decide +kernel
theorem dX1_addNumber_9 : decode cX1_addNumber 9 = .ok (.aload_n 0, 1) := by decide +kernel
theorem dX1_addNumber_10 : decode cX1_addNumber 10 = .ok (.bipush 45, 2) := by decide +kernel
theorem dX1_addNumber_12 : decode cX1_addNumber 12 = .ok (.invokevirtual 25, 3) := by decide +kernel
theorem dX1_addNumber_15 : decode cX1_addNumber 15 = .ok (.lload_n 2, 1) := by decide +kernel
theorem dX1_addNumber_16 : decode cX1_addNumber 16 = .ok (.lneg, 1) := by decide +kernel
theorem dX1_addNumber_17 : decode cX1_addNumber 17 = .ok (.lstore_n 2, 1) := by decide +kernel
theorem dX1_addNumber_18 : decode cX1_addNumber 18 = .ok (.lconst 1, 1) := by decide +kernel
theorem dX1_addNumber_19 : decode cX1_addNumber 19 = .ok (.lstore 4, 2) := by decide +kernel
theorem dX1_addNumber_21 : decode cX1_addNumber 21 = .ok (.iconst 1, 1) := by decide +kernel
theorem dX1_addNumber_22 : decode cX1_addNumber 22 = .ok (.istore 6, 2) := by decide +kernel
theorem dX1_addNumber_24 : decode cX1_addNumber 24 = .ok (.iload 6, 2) := by decide +kernel
theorem dX1_addNumber_26 : decode cX1_addNumber 26 = .ok (.bipush 11, 2) := by decide +kernel
theorem dX1_addNumber_28 : decode cX1_addNumber 28 = .ok (.if_icmp .ge 28, 3) := by decide +kernel
theorem dX1_addNumber_31 : decode cX1_addNumber 31 = .ok (.lload 4, 2) := by decide +kernel
theorem dX1_addNumber_33 : decode cX1_addNumber 33 = .ok (.ldc2_w 40, 3) := by decide +kernel
theorem dX1_addNumber_36 : decode cX1_addNumber 36 = .ok (.lmul, 1) := by decide +kernel
theorem dX1_addNumber_37 : decode cX1_addNumber 37 = .ok (.lload_n 2, 1) := by decide +kernel
theorem dX1_addNumber_38 : decode cX1_addNumber 38 = .ok (.lcmp, 1) := by decide +kernel
theorem dX1_addNumber_39 : decode cX1_addNumber 39 = .ok (.ifCond .gt 17, 3) := by decide +kernel
theorem dX1_addNumber_42 : decode cX1_addNumber 42 = .ok (.lload 4, 2) := by decide +kernel
theorem dX1_addNumber_44 : decode cX1_addNumber 44 = .ok (.ldc2_w 40, 3) := by decide +kernel
theorem dX1_addNumber_47 : decode cX1_addNumber 47 = .ok (.lmul, 1) := by decide +kernel
theorem dX1_addNumber_48 : decode cX1_addNumber 48 = .ok (.lstore 4, 2) := by decide +kernel
theorem dX1_addNumber_50 : decode cX1_addNumber 50 = .ok (.iinc 6 1, 3) := by decide +kernel
theorem dX1_addNumber_53 : decode cX1_addNumber 53 = .ok (.goto (-29), 3) := by decide +kernel
theorem dX1_addNumber_56 : decode cX1_addNumber 56 = .ok (.lload 4, 2) := by decide +kernel
theorem dX1_addNumber_58 : decode cX1_addNumber 58 = .ok (.lconst 0, 1) := by decide +kernel
theorem dX1_addNumber_59 : decode cX1_addNumber 59 = .ok (.lcmp, 1) := by decide +kernel
theorem dX1_addNumber_60 : decode cX1_addNumber 60 = .ok (.ifCond .le 31, 3) := by decide +kernel
theorem dX1_addNumber_63 : decode cX1_addNumber 63 = .ok (.aload_n 0, 1) := by decide +kernel
theorem dX1_addNumber_64 : decode cX1_addNumber 64 = .ok (.ldc2_w 42, 3) := by decide +kernel
theorem dX1_addNumber_67 : decode cX1_addNumber 67 = .ok (.lload_n 2, 1) := by decide +kernel
theorem dX1_addNumber_68 : decode cX1_addNumber 68 = .ok (.lload 4, 2) := by decide +kernel
theorem dX1_addNumber_70 : decode cX1_addNumber 70 = .ok (.ldiv, 1) := by decide +kernel
theorem dX1_addNumber_71 : decode cX1_addNumber 71 = .ok (.ldc2_w 40, 3) := by decide +kernel
theorem dX1_addNumber_74 : decode cX1_addNumber 74 = .ok (.lrem, 1) := by decide +kernel
theorem dX1_addNumber_75 : decode cX1_addNumber 75 = .ok (.ladd, 1) := by decide +kernel
theorem dX1_addNumber_76 : decode cX1_addNumber 76 = .ok (.l2i, 1) := by decide +kernel
theorem dX1_addNumber_77 : decode cX1_addNumber 77 = .ok (.invokevirtual 25, 3) := by decide +kernel
theorem dX1_addNumber_80 : decode cX1_addNumber 80 = .ok (.lload 4, 2) := by decide +kernel
theorem dX1_addNumber_82 : decode cX1_addNumber 82 = .ok (.ldc2_w 40, 3) := by decide +kernel
theorem dX1_addNumber_85 : decode cX1_addNumber 85 = .ok (.ldiv, 1) := by decide +kernel
theorem dX1_addNumber_86 : decode cX1_addNumber 86 = .ok (.lstore 4, 2) := by decide +kernel
theorem dX1_addNumber_88 : decode cX1_addNumber 88 = .ok (.goto (-32), 3) := by decide +kernel
theorem dX1_addNumber_91 : decode cX1_addNumber 91 = .ok (.return_, 1) := by decide +kernel
theorem dX2_init_0 : decode cX2_init 0 = .ok (.aload_n 0, 1) := by decide +kernel
theorem dX2_init_1 : decode cX2_init 1 = .ok (.invokespecial 3, 3) := by decide +kernel
theorem dX2_init_4 : decode cX2_init 4 = .ok (.aload_n 0, 1) := by decide +kernel
theorem dX2_init_5 : decode cX2_init 5 = .ok (.bipush 20, 2) := by decide +kernel
theorem dX2_init_7 : decode cX2_init 7 = .ok (.newarray .int, 2) := by decide +kernel
theorem dX2_init_9 : decode cX2_init 9 = .ok (.putfield 9, 3) := by decide +kernel
theorem dX2_init_12 : decode cX2_init 12 = .ok (.aload_n 0, 1) := by decide +kernel
theorem dX2_init_13 : decode cX2_init 13 = .ok (.bipush 20, 2) := by decide +kernel
theorem dX2_init_15 : decode cX2_init 15 = .ok (.newarray .int, 2) := by decide +kernel
theorem dX2_init_17 : decode cX2_init 17 = .ok (.putfield 15, 3) := by decide +kernel
theorem dX2_init_20 : decode cX2_init 20 = .ok (.aload_n 0, 1) := by decide +kernel
theorem dX2_init_21 : decode cX2_init 21 = .ok (.bipush 20, 2) := by decide +kernel
theorem dX2_init_23 : decode cX2_init 23 = .ok (.newarray .int, 2) := by decide +kernel
theorem dX2_init_25 : decode cX2_init 25 = .ok (.putfield 18, 3) := by decide +kernel
theorem dX2_init_28 : decode cX2_init 28 = .ok (.aload_n 0, 1) := by decide +kernel
theorem dX2_init_29 : decode cX2_init 29 = .ok (.bipush 20, 2) := by decide +kernel
theorem dX2_init_31 : decode cX2_init 31 = .ok (.newarray .int, 2) := by decide +kernel
theorem dX2_init_33 : decode cX2_init 33 = .ok (.putfield 21, 3) := by decide +kernel
theorem dX2_init_36 : decode cX2_init 36 = .ok (.aload_n 0, 1) := by decide +kernel
theorem dX2_init_37 : decode cX2_init 37 = .ok (.bipush 6, 2) := by decide +kernel
theorem dX2_init_39 : decode cX2_init 39 = .ok (.newarray .int, 2) := by decide +kernel
theorem dX2_init_41 : decode cX2_init 41 = .ok (.putfield 24, 3) := by decide +kernel
theorem dX2_init_44 : decode cX2_init 44 = .ok (.aload_n 0, 1) := by decide +kernel
theorem dX2_init_45 : decode cX2_init 45 = .ok (.bipush 6, 2) := by decide +kernel
theorem dX2_init_47 : decode cX2_init 47 = .ok (.newarray .int, 2) := by decide +kernel
theorem dX2_init_49 : decode cX2_init 49 = .ok (.putfield 27, 3) := by decide +kernel
theorem dX2_init_52 : decode cX2_init 52 = .ok (.return_, 1) := by decide +kernel
theorem dX2_begin_0 : decode cX2_begin 0 = .ok (.iconst 0, 1) := by decide +kernel
theorem dX2_begin_1 : decode cX2_begin 1 = .ok (.istore_n 2, 1) := by decide +kernel
theorem dX2_begin_2 : decode cX2_begin 2 = .ok (.iload_n 2, 1) := by decide +kernel
theorem dX2_begin_3 : decode cX2_begin 3 = .ok (.aload_n 0, 1) := by decide +kernel
theorem dX2_begin_4 : decode cX2_begin 4 = .ok (.getfield 9, 3) := by decide +kernel
theorem dX2_begin_7 : decode cX2_begin 7 = .ok (.arraylength, 1) := by decide +kernel
theorem dX2_begin_8 : decode cX2_begin 8 = .ok (.if_icmp .ge 33, 3) := by decide +kernel
theorem dX2_begin_11 : decode cX2_begin 11 = .ok (.aload_n 0, 1) := by decide +kernel
theorem dX2_begin_12 : decode cX2_begin 12 = .ok (.getfield 9, 3) := by decide +kernel
theorem dX2_begin_15 : decode cX2_begin 15 = .ok (.iload_n 2, 1) := by decide +kernel
theorem dX2_begin_16 : decode cX2_begin 16 = .ok (.iload_n 2, 1) := by decide +kernel
theorem dX2_begin_17 : decode cX2_begin 17 = .ok (.aload_n 1, 1) := by decide +kernel
theorem dX2_begin_18 : decode cX2_begin 18 = .ok (.invokevirtual 30, 3) := by decide +kernel
theorem dX2_begin_21 : decode cX2_begin 21 = .ok (.if_icmp .ge 11, 3) := by decide +kernel
theorem dX2_begin_24 : decode cX2_begin 24 = .ok (.aload_n 1, 1) := by decide +kernel
theorem dX2_begin_25 : decode cX2_begin 25 = .ok (.iload_n 2, 1) := by decide +kernel
theorem dX2_begin_26 : decode cX2_begin 26 = .ok (.invokevirtual 36, 3) := by decide +kernel
theorem dX2_begin_29 : decode cX2_begin 29 = .ok (.goto 5, 3) := by decide +kernel
theorem dX2_begin_32 : decode cX2_begin 32 = .ok (.bipush (-2), 2) := by decide +kernel
theorem dX2_begin_34 : decode cX2_begin 34 = .ok (.iastore, 1) := by decide +kernel
theorem dX2_begin_35 : decode cX2_begin 35 = .ok (.iinc 2 1, 3) := by decide +kernel
theorem dX2_begin_38 : decode cX2_begin 38 = .ok (.goto (-36), 3) := by decide +kernel
theorem dX2_begin_41 : decode cX2_begin 41 = .ok (.aload_n 0, 1) := by decide +kernel
theorem dX2_begin_42 : decode cX2_begin 42 = .ok (.getfield 15, 3) := by decide +kernel
theorem dX2_begin_45 : decode cX2_begin 45 = .ok (.iconst 0, 1) := by decide +kernel
theorem dX2_begin_46 : decode cX2_begin 46 = .ok (.invokestatic 40, 3) := by decide +kernel
theorem dX2_begin_49 : decode cX2_begin 49 = .ok (.aload_n 0, 1) := by decide +kernel
theorem dX2_begin_50 : decode cX2_begin 50 = .ok (.getfield 18, 3) := by decide +kernel
theorem dX2_begin_53 : decode cX2_begin 53 = .ok (.iconst 0, 1) := by decide +kernel
theorem dX2_begin_54 : decode cX2_begin 54 = .ok (.invokestatic 40, 3) := by decide +kernel
theorem dX2_begin_57 : decode cX2_begin 57 = .ok (.aload_n 0, 1) := by decide +kernel
theorem dX2_begin_58 : decode cX2_begin 58 = .ok (.getfield 21, 3) := by decide +kernel
theorem dX2_begin_61 : decode cX2_begin 61 = .ok (.iconst 0, 1) := by decide +kernel
theorem dX2_begin_62 : decode cX2_begin 62 = .ok (.invokestatic 40, 3) := by decide +kernel
theorem dX2_begin_65 : decode cX2_begin 65 = .ok (.aload_n 0, 1) := by decide +kernel
theorem dX2_begin_66 : decode cX2_begin 66 = .ok (.getfield 24, 3) := by decide +kernel
theorem dX2_begin_69 : decode cX2_begin 69 = .ok (.iconst 0, 1) := by decide +kernel
theorem dX2_begin_70 : decode cX2_begin 70 = .ok (.invokestatic 40, 3) := by decide +kernel
theorem dX2_begin_73 : decode cX2_begin 73 = .ok (.aload_n 0, 1) := by decide +kernel
theorem dX2_begin_74 : decode cX2_begin 74 = .ok (.getfield 27, 3) := by decide +kernel
theorem dX2_begin_77 : decode cX2_begin 77 = .ok (.iconst 0, 1) := by decide +kernel
theorem dX2_begin_78 : decode cX2_begin 78 = .ok (.invokestatic 40, 3) := by decide +kernel
theorem dX2_begin_81 : decode cX2_begin 81 = .ok (.return_, 1) := by decide +kernel
theorem dX2_copyFrom_0 : decode cX2_copyFrom 0 = .ok (.aload_n 1, 1) := by decide +kernel
theorem dX2_copyFrom_1 : decode cX2_copyFrom 1 = .ok (.getfield 9, 3) := by decide +kernel
theorem dX2_copyFrom_4 : decode cX2_copyFrom 4 = .ok (.aload_n 0, 1) := by decide +kernel
theorem dX2_copyFrom_5 : decode cX2_copyFrom 5 = .ok (.getfield 9, 3) := by decide +kernel
theorem dX2_copyFrom_8 : decode cX2_copyFrom 8 = .ok (.invokestatic 44, 3) := by decide +kernel
theorem dX2_copyFrom_11 : decode cX2_copyFrom 11 = .ok (.aload_n 1, 1) := by decide +kernel
theorem dX2_copyFrom_12 : decode cX2_copyFrom 12 = .ok (.getfield 15, 3) := by decide +kernel
theorem dX2_copyFrom_15 : decode cX2_copyFrom 15 = .ok (.aload_n 0, 1) := by decide +kernel
theorem dX2_copyFrom_16 : decode cX2_copyFrom 16 = .ok (.getfield 15, 3) := by decide +kernel
theorem dX2_copyFrom_19 : decode cX2_copyFrom 19 = .ok (.invokestatic 44, 3) := by decide +kernel
theorem dX2_copyFrom_22 : decode cX2_copyFrom 22 = .ok (.aload_n 1, 1) := by decide +kernel
theorem dX2_copyFrom_23 : decode cX2_copyFrom 23 = .ok (.getfield 18, 3) := by decide +kernel
theorem dX2_copyFrom_26 : decode cX2_copyFrom 26 = .ok (.aload_n 0, 1) := by decide +kernel
theorem dX2_copyFrom_27 : decode cX2_copyFrom 27 = .ok (.getfield 18, 3) := by decide +kernel
theorem dX2_copyFrom_30 : decode cX2_copyFrom 30 = .ok (.invokestatic 44, 3) := by decide +kernel
theorem dX2_copyFrom_33 : decode cX2_copyFrom 33 = .ok (.aload_n 1, 1) := by decide +kernel
theorem dX2_copyFrom_34 : decode cX2_copyFrom 34 = .ok (.getfield 21, 3) := by decide +kernel
theorem dX2_copyFrom_37 : decode cX2_copyFrom 37 = .ok (.aload_n 0, 1) := by decide +kernel
theorem dX2_copyFrom_38 : decode cX2_copyFrom 38 = .ok (.getfield 21, 3) := by decide +kernel
theorem dX2_copyFrom_41 : decode cX2_copyFrom 41 = .ok (.invokestatic 44, 3) := by decide +kernel
theorem dX2_copyFrom_44 : decode cX2_copyFrom 44 = .ok (.aload_n 1, 1) := by decide +kernel
theorem dX2_copyFrom_45 : decode cX2_copyFrom 45 = .ok (.getfield 24, 3) := by decide +kernel
theorem dX2_copyFrom_48 : decode cX2_copyFrom 48 = .ok (.aload_n 0, 1) := by decide +kernel
theorem dX2_copyFrom_49 : decode cX2_copyFrom 49 = .ok (.getfield 24, 3) := by decide +kernel
theorem dX2_copyFrom_52 : decode cX2_copyFrom 52 = .ok (.invokestatic 44, 3) := by decide +kernel
theorem dX2_copyFrom_55 : decode cX2_copyFrom 55 = .ok (.aload_n 1, 1) := by decide +kernel
theorem dX2_copyFrom_56 : decode cX2_copyFrom 56 = .ok (.getfield 27, 3) := by decide +kernel
theorem dX2_copyFrom_59 : decode cX2_copyFrom 59 = .ok (.aload_n 0, 1) := by decide +kernel
theorem dX2_copyFrom_60 : decode cX2_copyFrom 60 = .ok (.getfield 27, 3) := by decide +kernel
theorem dX2_copyFrom_63 : decode cX2_copyFrom 63 = .ok (.invokestatic 44, 3) := by decide +kernel
theorem dX2_copyFrom_66 : decode cX2_copyFrom 66 = .ok (.return_, 1) := by decide +kernel
theorem dX2_boatOf_0 : decode cX2_boatOf 0 = .ok (.aload_n 0, 1) := by decide +kernel
theorem dX2_boatOf_1 : decode cX2_boatOf 1 = .ok (.getfield 9, 3) := by decide +kernel
theorem dX2_boatOf_4 : decode cX2_boatOf 4 = .ok (.iload_n 1, 1) := by decide +kernel
theorem dX2_boatOf_5 : decode cX2_boatOf 5 = .ok (.bipush (-2), 2) := by decide +kernel
theorem dX2_boatOf_7 : decode cX2_boatOf 7 = .ok (.invokestatic 48, 3) := by decide +kernel
theorem dX2_boatOf_10 : decode cX2_boatOf 10 = .ok (.ireturn, 1) := by decide +kernel
theorem dX2_isAtSea_0 : decode cX2_isAtSea 0 = .ok (.aload_n 0, 1) := by decide +kernel
theorem dX2_isAtSea_1 : decode cX2_isAtSea 1 = .ok (.getfield 15, 3) := by decide +kernel
theorem dX2_isAtSea_4 : decode cX2_isAtSea 4 = .ok (.iload_n 1, 1) := by decide +kernel
theorem dX2_isAtSea_5 : decode cX2_isAtSea 5 = .ok (.iconst 0, 1) := by decide +kernel
theorem dX2_isAtSea_6 : decode cX2_isAtSea 6 = .ok (.invokestatic 48, 3) := by decide +kernel
theorem dX2_isAtSea_9 : decode cX2_isAtSea 9 = .ok (.ifCond .eq 7, 3) := by decide +kernel
theorem dX2_isAtSea_12 : decode cX2_isAtSea 12 = .ok (.iconst 1, 1) := by decide +kernel
theorem dX2_isAtSea_13 : decode cX2_isAtSea 13 = .ok (.goto 4, 3) := by decide +kernel
theorem dX2_isAtSea_16 : decode cX2_isAtSea 16 = .ok (.iconst 0, 1) := by decide +kernel
theorem dX2_isAtSea_17 : decode cX2_isAtSea 17 = .ok (.ireturn, 1) := by decide +kernel
theorem dX2_faultsOf_0 : decode cX2_faultsOf 0 = .ok (.aload_n 0, 1) := by decide +kernel
theorem dX2_faultsOf_1 : decode cX2_faultsOf 1 = .ok (.getfield 18, 3) := by decide +kernel
theorem dX2_faultsOf_4 : decode cX2_faultsOf 4 = .ok (.iload_n 1, 1) := by decide +kernel
theorem dX2_faultsOf_5 : decode cX2_faultsOf 5 = .ok (.iconst 0, 1) := by decide +kernel
theorem dX2_faultsOf_6 : decode cX2_faultsOf 6 = .ok (.invokestatic 48, 3) := by decide +kernel
theorem dX2_faultsOf_9 : decode cX2_faultsOf 9 = .ok (.ireturn, 1) := by decide +kernel
theorem dX2_daysAtSeaOf_0 : decode cX2_daysAtSeaOf 0 = .ok (.aload_n 0, 1) := by decide +kernel
theorem dX2_daysAtSeaOf_1 : decode cX2_daysAtSeaOf 1 = .ok (.getfield 21, 3) := by decide +kernel
theorem dX2_daysAtSeaOf_4 : decode cX2_daysAtSeaOf 4 = .ok (.iload_n 1, 1) := by decide +kernel
theorem dX2_daysAtSeaOf_5 : decode cX2_daysAtSeaOf 5 = .ok (.iconst 0, 1) := by decide +kernel
theorem dX2_daysAtSeaOf_6 : decode cX2_daysAtSeaOf 6 = .ok (.invokestatic 48, 3) := by decide +kernel
theorem dX2_daysAtSeaOf_9 : decode cX2_daysAtSeaOf 9 = .ok (.ireturn, 1) := by decide +kernel
theorem dX2_isOut_0 : decode cX2_isOut 0 = .ok (.aload_n 0, 1) := by decide +kernel
theorem dX2_isOut_1 : decode cX2_isOut 1 = .ok (.getfield 24, 3) := by decide +kernel
theorem dX2_isOut_4 : decode cX2_isOut 4 = .ok (.iload_n 1, 1) := by decide +kernel
theorem dX2_isOut_5 : decode cX2_isOut 5 = .ok (.iconst 0, 1) := by decide +kernel
theorem dX2_isOut_6 : decode cX2_isOut 6 = .ok (.invokestatic 48, 3) := by decide +kernel
theorem dX2_isOut_9 : decode cX2_isOut 9 = .ok (.ifCond .eq 7, 3) := by decide +kernel
theorem dX2_isOut_12 : decode cX2_isOut 12 = .ok (.iconst 1, 1) := by decide +kernel
theorem dX2_isOut_13 : decode cX2_isOut 13 = .ok (.goto 4, 3) := by decide +kernel
theorem dX2_isOut_16 : decode cX2_isOut 16 = .ok (.iconst 0, 1) := by decide +kernel
theorem dX2_isOut_17 : decode cX2_isOut 17 = .ok (.ireturn, 1) := by decide +kernel
theorem dX2_backOf_0 : decode cX2_backOf 0 = .ok (.aload_n 0, 1) := by decide +kernel
theorem dX2_backOf_1 : decode cX2_backOf 1 = .ok (.getfield 24, 3) := by decide +kernel
theorem dX2_backOf_4 : decode cX2_backOf 4 = .ok (.iload_n 1, 1) := by decide +kernel
theorem dX2_backOf_5 : decode cX2_backOf 5 = .ok (.iconst 0, 1) := by decide +kernel
theorem dX2_backOf_6 : decode cX2_backOf 6 = .ok (.invokestatic 48, 3) := by decide +kernel
theorem dX2_backOf_9 : decode cX2_backOf 9 = .ok (.ireturn, 1) := by decide +kernel
theorem dX2_sailedOf_0 : decode cX2_sailedOf 0 = .ok (.aload_n 0, 1) := by decide +kernel
theorem dX2_sailedOf_1 : decode cX2_sailedOf 1 = .ok (.getfield 27, 3) := by decide +kernel
theorem dX2_sailedOf_4 : decode cX2_sailedOf 4 = .ok (.iload_n 1, 1) := by decide +kernel
theorem dX2_sailedOf_5 : decode cX2_sailedOf 5 = .ok (.iconst 0, 1) := by decide +kernel
theorem dX2_sailedOf_6 : decode cX2_sailedOf 6 = .ok (.invokestatic 48, 3) := by decide +kernel
theorem dX2_sailedOf_9 : decode cX2_sailedOf 9 = .ok (.ireturn, 1) := by decide +kernel
theorem dX2_assign_0 : decode cX2_assign 0 = .ok (.aload_n 0, 1) := by decide +kernel
theorem dX2_assign_1 : decode cX2_assign 1 = .ok (.getfield 9, 3) := by decide +kernel
theorem dX2_assign_4 : decode cX2_assign 4 = .ok (.iload_n 1, 1) := by decide +kernel
theorem dX2_assign_5 : decode cX2_assign 5 = .ok (.iload_n 2, 1) := by decide +kernel
theorem dX2_assign_6 : decode cX2_assign 6 = .ok (.invokestatic 52, 3) := by decide +kernel
theorem dX2_assign_9 : decode cX2_assign 9 = .ok (.return_, 1) := by decide +kernel
theorem dX2_addFault_0 : decode cX2_addFault 0 = .ok (.aload_n 0, 1) := by decide +kernel
theorem dX2_addFault_1 : decode cX2_addFault 1 = .ok (.getfield 18, 3) := by decide +kernel
theorem dX2_addFault_4 : decode cX2_addFault 4 = .ok (.iload_n 1, 1) := by decide +kernel
theorem dX2_addFault_5 : decode cX2_addFault 5 = .ok (.aload_n 0, 1) := by decide +kernel
theorem dX2_addFault_6 : decode cX2_addFault 6 = .ok (.iload_n 1, 1) := by decide +kernel
theorem dX2_addFault_7 : decode cX2_addFault 7 = .ok (.invokevirtual 56, 3) := by decide +kernel
theorem dX2_addFault_10 : decode cX2_addFault 10 = .ok (.iconst 1, 1) := by decide +kernel
theorem dX2_addFault_11 : decode cX2_addFault 11 = .ok (.iadd, 1) := by decide +kernel
theorem dX2_addFault_12 : decode cX2_addFault 12 = .ok (.invokestatic 52, 3) := by decide +kernel
theorem dX2_addFault_15 : decode cX2_addFault 15 = .ok (.return_, 1) := by decide +kernel
theorem dX2_moveBack_0 : decode cX2_moveBack 0 = .ok (.aload_n 0, 1) := by decide +kernel
theorem dX2_moveBack_1 : decode cX2_moveBack 1 = .ok (.getfield 24, 3) := by decide +kernel
theorem dX2_moveBack_4 : decode cX2_moveBack 4 = .ok (.iload_n 1, 1) := by decide +kernel
theorem dX2_moveBack_5 : decode cX2_moveBack 5 = .ok (.aload_n 0, 1) := by decide +kernel
theorem dX2_moveBack_6 : decode cX2_moveBack 6 = .ok (.iload_n 1, 1) := by decide +kernel
theorem dX2_moveBack_7 : decode cX2_moveBack 7 = .ok (.invokevirtual 59, 3) := by decide +kernel
theorem dX2_moveBack_10 : decode cX2_moveBack 10 = .ok (.iload_n 2, 1) := by decide +kernel
theorem dX2_moveBack_11 : decode cX2_moveBack 11 = .ok (.iadd, 1) := by decide +kernel
theorem dX2_moveBack_12 : decode cX2_moveBack 12 = .ok (.invokestatic 52, 3) := by decide +kernel
theorem dX2_moveBack_15 : decode cX2_moveBack 15 = .ok (.return_, 1) := by decide +kernel
theorem dX2_leave_0 : decode cX2_leave 0 = .ok (.aload_n 0, 1) := by decide +kernel
theorem dX2_leave_1 : decode cX2_leave 1 = .ok (.getfield 24, 3) := by decide +kernel
theorem dX2_leave_4 : decode cX2_leave 4 = .ok (.iload_n 1, 1) := by decide +kernel
theorem dX2_leave_5 : decode cX2_leave 5 = .ok (.iload_n 2, 1) := by decide +kernel
theorem dX2_leave_6 : decode cX2_leave 6 = .ok (.invokestatic 52, 3) := by decide +kernel
theorem dX2_leave_9 : decode cX2_leave 9 = .ok (.aload_n 0, 1) := by decide +kernel
theorem dX2_leave_10 : decode cX2_leave 10 = .ok (.getfield 27, 3) := by decide +kernel
theorem dX2_leave_13 : decode cX2_leave 13 = .ok (.iload_n 1, 1) := by decide +kernel
theorem dX2_leave_14 : decode cX2_leave 14 = .ok (.aload_n 0, 1) := by decide +kernel
theorem dX2_leave_15 : decode cX2_leave 15 = .ok (.iload_n 1, 1) := by decide +kernel
theorem dX2_leave_16 : decode cX2_leave 16 = .ok (.invokevirtual 62, 3) := by decide +kernel
theorem dX2_leave_19 : decode cX2_leave 19 = .ok (.iconst 1, 1) := by decide +kernel
theorem dX2_leave_20 : decode cX2_leave 20 = .ok (.iadd, 1) := by decide +kernel
theorem dX2_leave_21 : decode cX2_leave 21 = .ok (.invokestatic 52, 3) := by decide +kernel
theorem dX2_leave_24 : decode cX2_leave 24 = .ok (.iconst 0, 1) := by decide +kernel
theorem dX2_leave_25 : decode cX2_leave 25 = .ok (.istore_n 3, 1) := by decide +kernel
theorem dX2_leave_26 : decode cX2_leave 26 = .ok (.iload_n 3, 1) := by decide +kernel
theorem dX2_leave_27 : decode cX2_leave 27 = .ok (.bipush 20, 2) := by decide +kernel
theorem dX2_leave_29 : decode cX2_leave 29 = .ok (.if_icmp .ge 27, 3) := by decide +kernel
theorem dX2_leave_32 : decode cX2_leave 32 = .ok (.aload_n 0, 1) := by decide +kernel
theorem dX2_leave_33 : decode cX2_leave 33 = .ok (.iload_n 3, 1) := by decide +kernel
theorem dX2_leave_34 : decode cX2_leave 34 = .ok (.invokevirtual 65, 3) := by decide +kernel
theorem dX2_leave_37 : decode cX2_leave 37 = .ok (.iload_n 1, 1) := by decide +kernel
theorem dX2_leave_38 : decode cX2_leave 38 = .ok (.if_icmp .ne 12, 3) := by decide +kernel
theorem dX2_leave_41 : decode cX2_leave 41 = .ok (.aload_n 0, 1) := by decide +kernel
theorem dX2_leave_42 : decode cX2_leave 42 = .ok (.getfield 15, 3) := by decide +kernel
theorem dX2_leave_45 : decode cX2_leave 45 = .ok (.iload_n 3, 1) := by decide +kernel
theorem dX2_leave_46 : decode cX2_leave 46 = .ok (.iconst 1, 1) := by decide +kernel
theorem dX2_leave_47 : decode cX2_leave 47 = .ok (.invokestatic 52, 3) := by decide +kernel
theorem dX2_leave_50 : decode cX2_leave 50 = .ok (.iinc 3 1, 3) := by decide +kernel
theorem dX2_leave_53 : decode cX2_leave 53 = .ok (.goto (-27), 3) := by decide +kernel
theorem dX2_leave_56 : decode cX2_leave 56 = .ok (.aload_n 0, 1) := by decide +kernel
theorem dX2_leave_57 : decode cX2_leave 57 = .ok (.iload_n 1, 1) := by decide +kernel
theorem dX2_leave_58 : decode cX2_leave 58 = .ok (.invokevirtual 67, 3) := by decide +kernel
theorem dX2_leave_61 : decode cX2_leave 61 = .ok (.ireturn, 1) := by decide +kernel
theorem dX2_arrive_0 : decode cX2_arrive 0 = .ok (.aload_n 0, 1) := by decide +kernel
theorem dX2_arrive_1 : decode cX2_arrive 1 = .ok (.iload_n 1, 1) := by decide +kernel
theorem dX2_arrive_2 : decode cX2_arrive 2 = .ok (.invokevirtual 67, 3) := by decide +kernel
theorem dX2_arrive_5 : decode cX2_arrive 5 = .ok (.istore_n 2, 1) := by decide +kernel
theorem dX2_arrive_6 : decode cX2_arrive 6 = .ok (.aload_n 0, 1) := by decide +kernel
theorem dX2_arrive_7 : decode cX2_arrive 7 = .ok (.getfield 24, 3) := by decide +kernel
theorem dX2_arrive_10 : decode cX2_arrive 10 = .ok (.iload_n 1, 1) := by decide +kernel
theorem dX2_arrive_11 : decode cX2_arrive 11 = .ok (.iconst 0, 1) := by decide +kernel
theorem dX2_arrive_12 : decode cX2_arrive 12 = .ok (.invokestatic 52, 3) := by decide +kernel
theorem dX2_arrive_15 : decode cX2_arrive 15 = .ok (.iconst 0, 1) := by decide +kernel
theorem dX2_arrive_16 : decode cX2_arrive 16 = .ok (.istore_n 3, 1) := by decide +kernel
theorem dX2_arrive_17 : decode cX2_arrive 17 = .ok (.iload_n 3, 1) := by decide +kernel
theorem dX2_arrive_18 : decode cX2_arrive 18 = .ok (.bipush 20, 2) := by decide +kernel
theorem dX2_arrive_20 : decode cX2_arrive 20 = .ok (.if_icmp .ge 27, 3) := by decide +kernel
theorem dX2_arrive_23 : decode cX2_arrive 23 = .ok (.aload_n 0, 1) := by decide +kernel
theorem dX2_arrive_24 : decode cX2_arrive 24 = .ok (.iload_n 3, 1) := by decide +kernel
theorem dX2_arrive_25 : decode cX2_arrive 25 = .ok (.invokevirtual 65, 3) := by decide +kernel
theorem dX2_arrive_28 : decode cX2_arrive 28 = .ok (.iload_n 1, 1) := by decide +kernel
theorem dX2_arrive_29 : decode cX2_arrive 29 = .ok (.if_icmp .ne 12, 3) := by decide +kernel
theorem dX2_arrive_32 : decode cX2_arrive 32 = .ok (.aload_n 0, 1) := by decide +kernel
theorem dX2_arrive_33 : decode cX2_arrive 33 = .ok (.getfield 15, 3) := by decide +kernel
theorem dX2_arrive_36 : decode cX2_arrive 36 = .ok (.iload_n 3, 1) := by decide +kernel
theorem dX2_arrive_37 : decode cX2_arrive 37 = .ok (.iconst 0, 1) := by decide +kernel
theorem dX2_arrive_38 : decode cX2_arrive 38 = .ok (.invokestatic 52, 3) := by decide +kernel
theorem dX2_arrive_41 : decode cX2_arrive 41 = .ok (.iinc 3 1, 3) := by decide +kernel
theorem dX2_arrive_44 : decode cX2_arrive 44 = .ok (.goto (-27), 3) := by decide +kernel
theorem dX2_arrive_47 : decode cX2_arrive 47 = .ok (.iload_n 2, 1) := by decide +kernel
theorem dX2_arrive_48 : decode cX2_arrive 48 = .ok (.ireturn, 1) := by decide +kernel
theorem dX2_countDayAtSea_0 : decode cX2_countDayAtSea 0 = .ok (.iconst 0, 1) := by decide +kernel
theorem dX2_countDayAtSea_1 : decode cX2_countDayAtSea 1 = .ok (.istore_n 1, 1) := by decide +kernel
theorem dX2_countDayAtSea_2 : decode cX2_countDayAtSea 2 = .ok (.iload_n 1, 1) := by decide +kernel
theorem dX2_countDayAtSea_3 : decode cX2_countDayAtSea 3 = .ok (.bipush 20, 2) := by decide +kernel
theorem dX2_countDayAtSea_5 : decode cX2_countDayAtSea 5 = .ok (.if_icmp .ge 32, 3) := by decide +kernel
theorem dX2_countDayAtSea_8 : decode cX2_countDayAtSea 8 = .ok (.aload_n 0, 1) := by decide +kernel
theorem dX2_countDayAtSea_9 : decode cX2_countDayAtSea 9 = .ok (.iload_n 1, 1) := by decide +kernel
theorem dX2_countDayAtSea_10 : decode cX2_countDayAtSea 10 = .ok (.invokevirtual 70, 3) := by decide +kernel
theorem dX2_countDayAtSea_13 : decode cX2_countDayAtSea 13 = .ok (.ifCond .eq 18, 3) := by decide +kernel
theorem dX2_countDayAtSea_16 : decode cX2_countDayAtSea 16 = .ok (.aload_n 0, 1) := by decide +kernel
theorem dX2_countDayAtSea_17 : decode cX2_countDayAtSea 17 = .ok (.getfield 21, 3) := by decide +kernel
theorem dX2_countDayAtSea_20 : decode cX2_countDayAtSea 20 = .ok (.iload_n 1, 1) := by decide +kernel
theorem dX2_countDayAtSea_21 : decode cX2_countDayAtSea 21 = .ok (.aload_n 0, 1) := by decide +kernel
theorem dX2_countDayAtSea_22 : decode cX2_countDayAtSea 22 = .ok (.iload_n 1, 1) := by decide +kernel
theorem dX2_countDayAtSea_23 : decode cX2_countDayAtSea 23 = .ok (.invokevirtual 74, 3) := by decide +kernel
theorem dX2_countDayAtSea_26 : decode cX2_countDayAtSea 26 = .ok (.iconst 1, 1) := by decide +kernel
theorem dX2_countDayAtSea_27 : decode cX2_countDayAtSea 27 = .ok (.iadd, 1) := by decide +kernel
theorem dX2_countDayAtSea_28 : decode cX2_countDayAtSea 28 = .ok (.invokestatic 52, 3) := by decide +kernel
theorem dX2_countDayAtSea_31 : decode cX2_countDayAtSea 31 = .ok (.iinc 1 1, 3) := by decide +kernel
theorem dX2_countDayAtSea_34 : decode cX2_countDayAtSea 34 = .ok (.goto (-32), 3) := by decide +kernel
theorem dX2_countDayAtSea_37 : decode cX2_countDayAtSea 37 = .ok (.return_, 1) := by decide +kernel
theorem dX2_aboard_0 : decode cX2_aboard 0 = .ok (.iconst 0, 1) := by decide +kernel
theorem dX2_aboard_1 : decode cX2_aboard 1 = .ok (.istore_n 2, 1) := by decide +kernel
theorem dX2_aboard_2 : decode cX2_aboard 2 = .ok (.iconst 0, 1) := by decide +kernel
theorem dX2_aboard_3 : decode cX2_aboard 3 = .ok (.istore_n 3, 1) := by decide +kernel
theorem dX2_aboard_4 : decode cX2_aboard 4 = .ok (.iload_n 3, 1) := by decide +kernel
theorem dX2_aboard_5 : decode cX2_aboard 5 = .ok (.bipush 20, 2) := by decide +kernel
theorem dX2_aboard_7 : decode cX2_aboard 7 = .ok (.if_icmp .ge 29, 3) := by decide +kernel
theorem dX2_aboard_10 : decode cX2_aboard 10 = .ok (.aload_n 0, 1) := by decide +kernel
theorem dX2_aboard_11 : decode cX2_aboard 11 = .ok (.iload_n 3, 1) := by decide +kernel
theorem dX2_aboard_12 : decode cX2_aboard 12 = .ok (.invokevirtual 65, 3) := by decide +kernel
theorem dX2_aboard_15 : decode cX2_aboard 15 = .ok (.iload_n 1, 1) := by decide +kernel
theorem dX2_aboard_16 : decode cX2_aboard 16 = .ok (.if_icmp .ne 14, 3) := by decide +kernel
theorem dX2_aboard_19 : decode cX2_aboard 19 = .ok (.aload_n 0, 1) := by decide +kernel
theorem dX2_aboard_20 : decode cX2_aboard 20 = .ok (.iload_n 3, 1) := by decide +kernel
theorem dX2_aboard_21 : decode cX2_aboard 21 = .ok (.invokevirtual 70, 3) := by decide +kernel
theorem dX2_aboard_24 : decode cX2_aboard 24 = .ok (.ifCond .eq 6, 3) := by decide +kernel
theorem dX2_aboard_27 : decode cX2_aboard 27 = .ok (.iinc 2 1, 3) := by decide +kernel
theorem dX2_aboard_30 : decode cX2_aboard 30 = .ok (.iinc 3 1, 3) := by decide +kernel
theorem dX2_aboard_33 : decode cX2_aboard 33 = .ok (.goto (-29), 3) := by decide +kernel
theorem dX2_aboard_36 : decode cX2_aboard 36 = .ok (.iload_n 2, 1) := by decide +kernel
theorem dX2_aboard_37 : decode cX2_aboard 37 = .ok (.ireturn, 1) := by decide +kernel
theorem dX2_belongingTo_0 : decode cX2_belongingTo 0 = .ok (.iconst 0, 1) := by decide +kernel
theorem dX2_belongingTo_1 : decode cX2_belongingTo 1 = .ok (.istore_n 2, 1) := by decide +kernel
theorem dX2_belongingTo_2 : decode cX2_belongingTo 2 = .ok (.iconst 0, 1) := by decide +kernel
theorem dX2_belongingTo_3 : decode cX2_belongingTo 3 = .ok (.istore_n 3, 1) := by decide +kernel
theorem dX2_belongingTo_4 : decode cX2_belongingTo 4 = .ok (.iload_n 3, 1) := by decide +kernel
theorem dX2_belongingTo_5 : decode cX2_belongingTo 5 = .ok (.bipush 20, 2) := by decide +kernel
theorem dX2_belongingTo_7 : decode cX2_belongingTo 7 = .ok (.if_icmp .ge 21, 3) := by decide +kernel
theorem dX2_belongingTo_10 : decode cX2_belongingTo 10 = .ok (.aload_n 0, 1) := by decide +kernel
theorem dX2_belongingTo_11 : decode cX2_belongingTo 11 = .ok (.iload_n 3, 1) := by decide +kernel
theorem dX2_belongingTo_12 : decode cX2_belongingTo 12 = .ok (.invokevirtual 65, 3) := by decide +kernel
theorem dX2_belongingTo_15 : decode cX2_belongingTo 15 = .ok (.iload_n 1, 1) := by decide +kernel
theorem dX2_belongingTo_16 : decode cX2_belongingTo 16 = .ok (.if_icmp .ne 6, 3) := by decide +kernel
theorem dX2_belongingTo_19 : decode cX2_belongingTo 19 = .ok (.iinc 2 1, 3) := by decide +kernel
theorem dX2_belongingTo_22 : decode cX2_belongingTo 22 = .ok (.iinc 3 1, 3) := by decide +kernel
theorem dX2_belongingTo_25 : decode cX2_belongingTo 25 = .ok (.goto (-21), 3) := by decide +kernel
theorem dX2_belongingTo_28 : decode cX2_belongingTo 28 = .ok (.iload_n 2, 1) := by decide +kernel
theorem dX2_belongingTo_29 : decode cX2_belongingTo 29 = .ok (.ireturn, 1) := by decide +kernel
theorem dX2_boatsOut_0 : decode cX2_boatsOut 0 = .ok (.iconst 0, 1) := by decide +kernel
theorem dX2_boatsOut_1 : decode cX2_boatsOut 1 = .ok (.istore_n 1, 1) := by decide +kernel
theorem dX2_boatsOut_2 : decode cX2_boatsOut 2 = .ok (.iconst 0, 1) := by decide +kernel
theorem dX2_boatsOut_3 : decode cX2_boatsOut 3 = .ok (.istore_n 2, 1) := by decide +kernel
theorem dX2_boatsOut_4 : decode cX2_boatsOut 4 = .ok (.iload_n 2, 1) := by decide +kernel
theorem dX2_boatsOut_5 : decode cX2_boatsOut 5 = .ok (.bipush 6, 2) := by decide +kernel
theorem dX2_boatsOut_7 : decode cX2_boatsOut 7 = .ok (.if_icmp .ge 20, 3) := by decide +kernel
theorem dX2_boatsOut_10 : decode cX2_boatsOut 10 = .ok (.aload_n 0, 1) := by decide +kernel
theorem dX2_boatsOut_11 : decode cX2_boatsOut 11 = .ok (.iload_n 2, 1) := by decide +kernel
theorem dX2_boatsOut_12 : decode cX2_boatsOut 12 = .ok (.invokevirtual 77, 3) := by decide +kernel
theorem dX2_boatsOut_15 : decode cX2_boatsOut 15 = .ok (.ifCond .eq 6, 3) := by decide +kernel
theorem dX2_boatsOut_18 : decode cX2_boatsOut 18 = .ok (.iinc 1 1, 3) := by decide +kernel
theorem dX2_boatsOut_21 : decode cX2_boatsOut 21 = .ok (.iinc 2 1, 3) := by decide +kernel
theorem dX2_boatsOut_24 : decode cX2_boatsOut 24 = .ok (.goto (-20), 3) := by decide +kernel
theorem dX2_boatsOut_27 : decode cX2_boatsOut 27 = .ok (.iload_n 1, 1) := by decide +kernel
theorem dX2_boatsOut_28 : decode cX2_boatsOut 28 = .ok (.ireturn, 1) := by decide +kernel
theorem dX2_boatsOutOn_0 : decode cX2_boatsOutOn 0 = .ok (.iconst 0, 1) := by decide +kernel
theorem dX2_boatsOutOn_1 : decode cX2_boatsOutOn 1 = .ok (.istore_n 2, 1) := by decide +kernel
theorem dX2_boatsOutOn_2 : decode cX2_boatsOutOn 2 = .ok (.iconst 0, 1) := by decide +kernel
theorem dX2_boatsOutOn_3 : decode cX2_boatsOutOn 3 = .ok (.istore_n 3, 1) := by decide +kernel
theorem dX2_boatsOutOn_4 : decode cX2_boatsOutOn 4 = .ok (.iload_n 3, 1) := by decide +kernel
theorem dX2_boatsOutOn_5 : decode cX2_boatsOutOn 5 = .ok (.bipush 6, 2) := by decide +kernel
theorem dX2_boatsOutOn_7 : decode cX2_boatsOutOn 7 = .ok (.if_icmp .ge 29, 3) := by decide +kernel
theorem dX2_boatsOutOn_10 : decode cX2_boatsOutOn 10 = .ok (.aload_n 0, 1) := by decide +kernel
theorem dX2_boatsOutOn_11 : decode cX2_boatsOutOn 11 = .ok (.iload_n 3, 1) := by decide +kernel
theorem dX2_boatsOutOn_12 : decode cX2_boatsOutOn 12 = .ok (.invokevirtual 77, 3) := by decide +kernel
theorem dX2_boatsOutOn_15 : decode cX2_boatsOutOn 15 = .ok (.ifCond .eq 15, 3) := by decide +kernel
theorem dX2_boatsOutOn_18 : decode cX2_boatsOutOn 18 = .ok (.aload_n 0, 1) := by decide +kernel
theorem dX2_boatsOutOn_19 : decode cX2_boatsOutOn 19 = .ok (.iload_n 3, 1) := by decide +kernel
theorem dX2_boatsOutOn_20 : decode cX2_boatsOutOn 20 = .ok (.invokevirtual 59, 3) := by decide +kernel
theorem dX2_boatsOutOn_23 : decode cX2_boatsOutOn 23 = .ok (.iload_n 1, 1) := by decide +kernel
theorem dX2_boatsOutOn_24 : decode cX2_boatsOutOn 24 = .ok (.if_icmp .le 6, 3) := by decide +kernel
theorem dX2_boatsOutOn_27 : decode cX2_boatsOutOn 27 = .ok (.iinc 2 1, 3) := by decide +kernel
theorem dX2_boatsOutOn_30 : decode cX2_boatsOutOn 30 = .ok (.iinc 3 1, 3) := by decide +kernel
theorem dX2_boatsOutOn_33 : decode cX2_boatsOutOn 33 = .ok (.goto (-29), 3) := by decide +kernel
theorem dX2_boatsOutOn_36 : decode cX2_boatsOutOn 36 = .ok (.iload_n 2, 1) := by decide +kernel
theorem dX2_boatsOutOn_37 : decode cX2_boatsOutOn 37 = .ok (.ireturn, 1) := by decide +kernel
theorem dX2_peopleAtSea_0 : decode cX2_peopleAtSea 0 = .ok (.iconst 0, 1) := by decide +kernel
theorem dX2_peopleAtSea_1 : decode cX2_peopleAtSea 1 = .ok (.istore_n 1, 1) := by decide +kernel
theorem dX2_peopleAtSea_2 : decode cX2_peopleAtSea 2 = .ok (.iconst 0, 1) := by decide +kernel
theorem dX2_peopleAtSea_3 : decode cX2_peopleAtSea 3 = .ok (.istore_n 2, 1) := by decide +kernel
theorem dX2_peopleAtSea_4 : decode cX2_peopleAtSea 4 = .ok (.iload_n 2, 1) := by decide +kernel
theorem dX2_peopleAtSea_5 : decode cX2_peopleAtSea 5 = .ok (.bipush 20, 2) := by decide +kernel
theorem dX2_peopleAtSea_7 : decode cX2_peopleAtSea 7 = .ok (.if_icmp .ge 20, 3) := by decide +kernel
theorem dX2_peopleAtSea_10 : decode cX2_peopleAtSea 10 = .ok (.aload_n 0, 1) := by decide +kernel
theorem dX2_peopleAtSea_11 : decode cX2_peopleAtSea 11 = .ok (.iload_n 2, 1) := by decide +kernel
theorem dX2_peopleAtSea_12 : decode cX2_peopleAtSea 12 = .ok (.invokevirtual 70, 3) := by decide +kernel
theorem dX2_peopleAtSea_15 : decode cX2_peopleAtSea 15 = .ok (.ifCond .eq 6, 3) := by decide +kernel
theorem dX2_peopleAtSea_18 : decode cX2_peopleAtSea 18 = .ok (.iinc 1 1, 3) := by decide +kernel
theorem dX2_peopleAtSea_21 : decode cX2_peopleAtSea 21 = .ok (.iinc 2 1, 3) := by decide +kernel
theorem dX2_peopleAtSea_24 : decode cX2_peopleAtSea 24 = .ok (.goto (-20), 3) := by decide +kernel
theorem dX2_peopleAtSea_27 : decode cX2_peopleAtSea 27 = .ok (.iload_n 1, 1) := by decide +kernel
theorem dX2_peopleAtSea_28 : decode cX2_peopleAtSea 28 = .ok (.ireturn, 1) := by decide +kernel
theorem dX2_peopleAtSeaOn_0 : decode cX2_peopleAtSeaOn 0 = .ok (.iconst 0, 1) := by decide +kernel
theorem dX2_peopleAtSeaOn_1 : decode cX2_peopleAtSeaOn 1 = .ok (.istore_n 2, 1) := by decide +kernel
theorem dX2_peopleAtSeaOn_2 : decode cX2_peopleAtSeaOn 2 = .ok (.iconst 0, 1) := by decide +kernel
theorem dX2_peopleAtSeaOn_3 : decode cX2_peopleAtSeaOn 3 = .ok (.istore_n 3, 1) := by decide +kernel
theorem dX2_peopleAtSeaOn_4 : decode cX2_peopleAtSeaOn 4 = .ok (.iload_n 3, 1) := by decide +kernel
theorem dX2_peopleAtSeaOn_5 : decode cX2_peopleAtSeaOn 5 = .ok (.bipush 20, 2) := by decide +kernel
theorem dX2_peopleAtSeaOn_7 : decode cX2_peopleAtSeaOn 7 = .ok (.if_icmp .ge 33, 3) := by decide +kernel
theorem dX2_peopleAtSeaOn_10 : decode cX2_peopleAtSeaOn 10 = .ok (.aload_n 0, 1) := by decide +kernel
theorem dX2_peopleAtSeaOn_11 : decode cX2_peopleAtSeaOn 11 = .ok (.iload_n 3, 1) := by decide +kernel
theorem dX2_peopleAtSeaOn_12 : decode cX2_peopleAtSeaOn 12 = .ok (.invokevirtual 70, 3) := by decide +kernel
theorem dX2_peopleAtSeaOn_15 : decode cX2_peopleAtSeaOn 15 = .ok (.ifCond .eq 19, 3) := by decide +kernel
theorem dX2_peopleAtSeaOn_18 : decode cX2_peopleAtSeaOn 18 = .ok (.aload_n 0, 1) := by decide +kernel
theorem dX2_peopleAtSeaOn_19 : decode cX2_peopleAtSeaOn 19 = .ok (.aload_n 0, 1) := by decide +kernel
theorem dX2_peopleAtSeaOn_20 : decode cX2_peopleAtSeaOn 20 = .ok (.iload_n 3, 1) := by decide +kernel
theorem dX2_peopleAtSeaOn_21 : decode cX2_peopleAtSeaOn 21 = .ok (.invokevirtual 65, 3) := by decide +kernel
theorem dX2_peopleAtSeaOn_24 : decode cX2_peopleAtSeaOn 24 = .ok (.invokevirtual 59, 3) := by decide +kernel
theorem dX2_peopleAtSeaOn_27 : decode cX2_peopleAtSeaOn 27 = .ok (.iload_n 1, 1) := by decide +kernel
theorem dX2_peopleAtSeaOn_28 : decode cX2_peopleAtSeaOn 28 = .ok (.if_icmp .le 6, 3) := by decide +kernel
theorem dX2_peopleAtSeaOn_31 : decode cX2_peopleAtSeaOn 31 = .ok (.iinc 2 1, 3) := by decide +kernel
theorem dX2_peopleAtSeaOn_34 : decode cX2_peopleAtSeaOn 34 = .ok (.iinc 3 1, 3) := by decide +kernel
theorem dX2_peopleAtSeaOn_37 : decode cX2_peopleAtSeaOn 37 = .ok (.goto (-33), 3) := by decide +kernel
theorem dX2_peopleAtSeaOn_40 : decode cX2_peopleAtSeaOn 40 = .ok (.iload_n 2, 1) := by decide +kernel
theorem dX2_peopleAtSeaOn_41 : decode cX2_peopleAtSeaOn 41 = .ok (.ireturn, 1) := by decide +kernel
theorem dX2_daysAtSeaOfAll_0 : decode cX2_daysAtSeaOfAll 0 = .ok (.lconst 0, 1) := by decide +kernel
theorem dX2_daysAtSeaOfAll_1 : decode cX2_daysAtSeaOfAll 1 = .ok (.lstore_n 1, 1) := by decide +kernel
theorem dX2_daysAtSeaOfAll_2 : decode cX2_daysAtSeaOfAll 2 = .ok (.iconst 0, 1) := by decide +kernel
theorem dX2_daysAtSeaOfAll_3 : decode cX2_daysAtSeaOfAll 3 = .ok (.istore_n 3, 1) := by decide +kernel
theorem dX2_daysAtSeaOfAll_4 : decode cX2_daysAtSeaOfAll 4 = .ok (.iload_n 3, 1) := by decide +kernel
theorem dX2_daysAtSeaOfAll_5 : decode cX2_daysAtSeaOfAll 5 = .ok (.bipush 20, 2) := by decide +kernel
theorem dX2_daysAtSeaOfAll_7 : decode cX2_daysAtSeaOfAll 7 = .ok (.if_icmp .ge 18, 3) := by decide +kernel
theorem dX2_daysAtSeaOfAll_10 : decode cX2_daysAtSeaOfAll 10 = .ok (.lload_n 1, 1) := by decide +kernel
theorem dX2_daysAtSeaOfAll_11 : decode cX2_daysAtSeaOfAll 11 = .ok (.aload_n 0, 1) := by decide +kernel
theorem dX2_daysAtSeaOfAll_12 : decode cX2_daysAtSeaOfAll 12 = .ok (.iload_n 3, 1) := by decide +kernel
theorem dX2_daysAtSeaOfAll_13 : decode cX2_daysAtSeaOfAll 13 = .ok (.invokevirtual 74, 3) := by decide +kernel
theorem dX2_daysAtSeaOfAll_16 : decode cX2_daysAtSeaOfAll 16 = .ok (.i2l, 1) := by decide +kernel
theorem dX2_daysAtSeaOfAll_17 : decode cX2_daysAtSeaOfAll 17 = .ok (.ladd, 1) := by decide +kernel
theorem dX2_daysAtSeaOfAll_18 : decode cX2_daysAtSeaOfAll 18 = .ok (.lstore_n 1, 1) := by decide +kernel
theorem dX2_daysAtSeaOfAll_19 : decode cX2_daysAtSeaOfAll 19 = .ok (.iinc 3 1, 3) := by decide +kernel
theorem dX2_daysAtSeaOfAll_22 : decode cX2_daysAtSeaOfAll 22 = .ok (.goto (-18), 3) := by decide +kernel
theorem dX2_daysAtSeaOfAll_25 : decode cX2_daysAtSeaOfAll 25 = .ok (.lload_n 1, 1) := by decide +kernel
theorem dX2_daysAtSeaOfAll_26 : decode cX2_daysAtSeaOfAll 26 = .ok (.lreturn, 1) := by decide +kernel
theorem dX3_init_0 : decode cX3_init 0 = .ok (.aload_n 0, 1) := by decide +kernel
theorem dX3_init_1 : decode cX3_init 1 = .ok (.invokespecial 3, 3) := by decide +kernel
theorem dX3_init_4 : decode cX3_init 4 = .ok (.aload_n 0, 1) := by decide +kernel
theorem dX3_init_5 : decode cX3_init 5 = .ok (.bipush 8, 2) := by decide +kernel
theorem dX3_init_7 : decode cX3_init 7 = .ok (.anewarray 9, 3) := by decide +kernel
theorem dX3_init_10 : decode cX3_init 10 = .ok (.putfield 11, 3) := by decide +kernel
theorem dX3_init_13 : decode cX3_init 13 = .ok (.iconst 0, 1) := by decide +kernel
theorem dX3_init_14 : decode cX3_init 14 = .ok (.istore_n 1, 1) := by decide +kernel
theorem dX3_init_15 : decode cX3_init 15 = .ok (.iload_n 1, 1) := by decide +kernel
theorem dX3_init_16 : decode cX3_init 16 = .ok (.aload_n 0, 1) := by decide +kernel
theorem dX3_init_17 : decode cX3_init 17 = .ok (.getfield 11, 3) := by decide +kernel
theorem dX3_init_20 : decode cX3_init 20 = .ok (.arraylength, 1) := by decide +kernel
theorem dX3_init_21 : decode cX3_init 21 = .ok (.if_icmp .ge 22, 3) := by decide +kernel
theorem dX3_init_24 : decode cX3_init 24 = .ok (.aload_n 0, 1) := by decide +kernel
theorem dX3_init_25 : decode cX3_init 25 = .ok (.getfield 11, 3) := by decide +kernel
theorem dX3_init_28 : decode cX3_init 28 = .ok (.iload_n 1, 1) := by decide +kernel
theorem dX3_init_29 : decode cX3_init 29 = .ok (.new 9, 3) := by decide +kernel
theorem dX3_init_32 : decode cX3_init 32 = .ok (.dup, 1) := by decide +kernel
theorem dX3_init_33 : decode cX3_init 33 = .ok (.invokespecial 17, 3) := by decide +kernel
theorem dX3_init_36 : decode cX3_init 36 = .ok (.aastore, 1) := by decide +kernel
theorem dX3_init_37 : decode cX3_init 37 = .ok (.iinc 1 1, 3) := by decide +kernel
theorem dX3_init_40 : decode cX3_init 40 = .ok (.goto (-25), 3) := by decide +kernel
theorem dX3_init_43 : decode cX3_init 43 = .ok (.return_, 1) := by decide +kernel
theorem dX3_steps_0 : decode cX3_steps 0 = .ok (.aload_n 0, 1) := by decide +kernel
theorem dX3_steps_1 : decode cX3_steps 1 = .ok (.getfield 18, 3) := by decide +kernel
theorem dX3_steps_4 : decode cX3_steps 4 = .ok (.ireturn, 1) := by decide +kernel
theorem dX3_forget_0 : decode cX3_forget 0 = .ok (.aload_n 0, 1) := by decide +kernel
theorem dX3_forget_1 : decode cX3_forget 1 = .ok (.iconst 0, 1) := by decide +kernel
theorem dX3_forget_2 : decode cX3_forget 2 = .ok (.putfield 18, 3) := by decide +kernel
theorem dX3_forget_5 : decode cX3_forget 5 = .ok (.return_, 1) := by decide +kernel
theorem dX3_remember_0 : decode cX3_remember 0 = .ok (.aload_n 0, 1) := by decide +kernel
theorem dX3_remember_1 : decode cX3_remember 1 = .ok (.getfield 22, 3) := by decide +kernel
theorem dX3_remember_4 : decode cX3_remember 4 = .ok (.aload_n 0, 1) := by decide +kernel
theorem dX3_remember_5 : decode cX3_remember 5 = .ok (.getfield 11, 3) := by decide +kernel
theorem dX3_remember_8 : decode cX3_remember 8 = .ok (.arraylength, 1) := by decide +kernel
theorem dX3_remember_9 : decode cX3_remember 9 = .ok (.invokestatic 25, 3) := by decide +kernel
theorem dX3_remember_12 : decode cX3_remember 12 = .ok (.ifCond .ne 4, 3) := by decide +kernel
theorem dX3_remember_15 : decode cX3_remember 15 = .ok (.return_, 1) := by decide +kernel
theorem dX3_remember_16 : decode cX3_remember 16 = .ok (.aload_n 0, 1) := by decide +kernel
theorem dX3_remember_17 : decode cX3_remember 17 = .ok (.getfield 11, 3) := by decide +kernel
theorem dX3_remember_20 : decode cX3_remember 20 = .ok (.aload_n 0, 1) := by decide +kernel
theorem dX3_remember_21 : decode cX3_remember 21 = .ok (.getfield 22, 3) := by decide +kernel
theorem dX3_remember_24 : decode cX3_remember 24 = .ok (.aaload, 1) := by decide +kernel
theorem dX3_remember_25 : decode cX3_remember 25 = .ok (.aload_n 1, 1) := by decide +kernel
theorem dX3_remember_26 : decode cX3_remember 26 = .ok (.invokevirtual 29, 3) := by decide +kernel
theorem dX3_remember_29 : decode cX3_remember 29 = .ok (.aload_n 0, 1) := by decide +kernel
theorem dX3_remember_30 : decode cX3_remember 30 = .ok (.aload_n 0, 1) := by decide +kernel
theorem dX3_remember_31 : decode cX3_remember 31 = .ok (.getfield 22, 3) := by decide +kernel
theorem dX3_remember_34 : decode cX3_remember 34 = .ok (.iconst 1, 1) := by decide +kernel
theorem dX3_remember_35 : decode cX3_remember 35 = .ok (.iadd, 1) := by decide +kernel
theorem dX3_remember_36 : decode cX3_remember 36 = .ok (.aload_n 0, 1) := by decide +kernel
theorem dX3_remember_37 : decode cX3_remember 37 = .ok (.getfield 11, 3) := by decide +kernel
theorem dX3_remember_40 : decode cX3_remember 40 = .ok (.arraylength, 1) := by decide +kernel
theorem dX3_remember_41 : decode cX3_remember 41 = .ok (.if_icmp .ge 12, 3) := by decide +kernel
theorem dX3_remember_44 : decode cX3_remember 44 = .ok (.aload_n 0, 1) := by decide +kernel
theorem dX3_remember_45 : decode cX3_remember 45 = .ok (.getfield 22, 3) := by decide +kernel
theorem dX3_remember_48 : decode cX3_remember 48 = .ok (.iconst 1, 1) := by decide +kernel
theorem dX3_remember_49 : decode cX3_remember 49 = .ok (.iadd, 1) := by decide +kernel
theorem dX3_remember_50 : decode cX3_remember 50 = .ok (.goto 4, 3) := by decide +kernel
theorem dX3_remember_53 : decode cX3_remember 53 = .ok (.iconst 0, 1) := by decide +kernel
theorem dX3_remember_54 : decode cX3_remember 54 = .ok (.putfield 22, 3) := by decide +kernel
theorem dX3_remember_57 : decode cX3_remember 57 = .ok (.aload_n 0, 1) := by decide +kernel
theorem dX3_remember_58 : decode cX3_remember 58 = .ok (.aload_n 0, 1) := by decide +kernel
theorem dX3_remember_59 : decode cX3_remember 59 = .ok (.getfield 18, 3) := by decide +kernel
theorem dX3_remember_62 : decode cX3_remember 62 = .ok (.iconst 1, 1) := by decide +kernel
theorem dX3_remember_63 : decode cX3_remember 63 = .ok (.iadd, 1) := by decide +kernel
theorem dX3_remember_64 : decode cX3_remember 64 = .ok (.aload_n 0, 1) := by decide +kernel
theorem dX3_remember_65 : decode cX3_remember 65 = .ok (.getfield 11, 3) := by decide +kernel
theorem dX3_remember_68 : decode cX3_remember 68 = .ok (.arraylength, 1) := by decide +kernel
theorem dX3_remember_69 : decode cX3_remember 69 = .ok (.invokestatic 33, 3) := by decide +kernel
theorem dX3_remember_72 : decode cX3_remember 72 = .ok (.putfield 18, 3) := by decide +kernel
theorem dX3_remember_75 : decode cX3_remember 75 = .ok (.return_, 1) := by decide +kernel
theorem dX3_bringBack_0 : decode cX3_bringBack 0 = .ok (.aload_n 0, 1) := by decide +kernel
theorem dX3_bringBack_1 : decode cX3_bringBack 1 = .ok (.getfield 22, 3) := by decide +kernel
theorem dX3_bringBack_4 : decode cX3_bringBack 4 = .ok (.ifCond .le 12, 3) := by decide +kernel
theorem dX3_bringBack_7 : decode cX3_bringBack 7 = .ok (.aload_n 0, 1) := by decide +kernel
theorem dX3_bringBack_8 : decode cX3_bringBack 8 = .ok (.getfield 22, 3) := by decide +kernel
theorem dX3_bringBack_11 : decode cX3_bringBack 11 = .ok (.iconst 1, 1) := by decide +kernel
theorem dX3_bringBack_12 : decode cX3_bringBack 12 = .ok (.isub, 1) := by decide +kernel
theorem dX3_bringBack_13 : decode cX3_bringBack 13 = .ok (.goto 10, 3) := by decide +kernel
theorem dX3_bringBack_16 : decode cX3_bringBack 16 = .ok (.aload_n 0, 1) := by decide +kernel
theorem dX3_bringBack_17 : decode cX3_bringBack 17 = .ok (.getfield 11, 3) := by decide +kernel
theorem dX3_bringBack_20 : decode cX3_bringBack 20 = .ok (.arraylength, 1) := by decide +kernel
theorem dX3_bringBack_21 : decode cX3_bringBack 21 = .ok (.iconst 1, 1) := by decide +kernel
theorem dX3_bringBack_22 : decode cX3_bringBack 22 = .ok (.isub, 1) := by decide +kernel
theorem dX3_bringBack_23 : decode cX3_bringBack 23 = .ok (.istore_n 2, 1) := by decide +kernel
theorem dX3_bringBack_24 : decode cX3_bringBack 24 = .ok (.aload_n 0, 1) := by decide +kernel
theorem dX3_bringBack_25 : decode cX3_bringBack 25 = .ok (.getfield 18, 3) := by decide +kernel
theorem dX3_bringBack_28 : decode cX3_bringBack 28 = .ok (.iconst 1, 1) := by decide +kernel
theorem dX3_bringBack_29 : decode cX3_bringBack 29 = .ok (.if_icmp .lt 15, 3) := by decide +kernel
theorem dX3_bringBack_32 : decode cX3_bringBack 32 = .ok (.iload_n 2, 1) := by decide +kernel
theorem dX3_bringBack_33 : decode cX3_bringBack 33 = .ok (.aload_n 0, 1) := by decide +kernel
theorem dX3_bringBack_34 : decode cX3_bringBack 34 = .ok (.getfield 11, 3) := by decide +kernel
theorem dX3_bringBack_37 : decode cX3_bringBack 37 = .ok (.arraylength, 1) := by decide +kernel
theorem dX3_bringBack_38 : decode cX3_bringBack 38 = .ok (.invokestatic 25, 3) := by decide +kernel
theorem dX3_bringBack_41 : decode cX3_bringBack 41 = .ok (.ifCond .ne 5, 3) := by decide +kernel
theorem dX3_bringBack_44 : decode cX3_bringBack 44 = .ok (.iconst 0, 1) := by decide +kernel
theorem dX3_bringBack_45 : decode cX3_bringBack 45 = .ok (.ireturn, 1) := by decide +kernel
theorem dX3_bringBack_46 : decode cX3_bringBack 46 = .ok (.aload_n 1, 1) := by decide +kernel
theorem dX3_bringBack_47 : decode cX3_bringBack 47 = .ok (.aload_n 0, 1) := by decide +kernel
theorem dX3_bringBack_48 : decode cX3_bringBack 48 = .ok (.getfield 11, 3) := by decide +kernel
theorem dX3_bringBack_51 : decode cX3_bringBack 51 = .ok (.iload_n 2, 1) := by decide +kernel
theorem dX3_bringBack_52 : decode cX3_bringBack 52 = .ok (.aaload, 1) := by decide +kernel
theorem dX3_bringBack_53 : decode cX3_bringBack 53 = .ok (.invokevirtual 29, 3) := by decide +kernel
theorem dX3_bringBack_56 : decode cX3_bringBack 56 = .ok (.aload_n 0, 1) := by decide +kernel
theorem dX3_bringBack_57 : decode cX3_bringBack 57 = .ok (.iload_n 2, 1) := by decide +kernel
theorem dX3_bringBack_58 : decode cX3_bringBack 58 = .ok (.putfield 22, 3) := by decide +kernel
theorem dX3_bringBack_61 : decode cX3_bringBack 61 = .ok (.aload_n 0, 1) := by decide +kernel
theorem dX3_bringBack_62 : decode cX3_bringBack 62 = .ok (.dup, 1) := by decide +kernel
theorem dX3_bringBack_63 : decode cX3_bringBack 63 = .ok (.getfield 18, 3) := by decide +kernel
theorem dX3_bringBack_66 : decode cX3_bringBack 66 = .ok (.iconst 1, 1) := by decide +kernel
theorem dX3_bringBack_67 : decode cX3_bringBack 67 = .ok (.isub, 1) := by decide +kernel
theorem dX3_bringBack_68 : decode cX3_bringBack 68 = .ok (.putfield 18, 3) := by decide +kernel
theorem dX3_bringBack_71 : decode cX3_bringBack 71 = .ok (.iconst 1, 1) := by decide +kernel
theorem dX3_bringBack_72 : decode cX3_bringBack 72 = .ok (.ireturn, 1) := by decide +kernel
theorem dX4_init_0 : decode cX4_init 0 = .ok (.aload_n 0, 1) := by decide +kernel
theorem dX4_init_1 : decode cX4_init 1 = .ok (.invokespecial 3, 3) := by decide +kernel
theorem dX4_init_4 : decode cX4_init 4 = .ok (.aload_n 0, 1) := by decide +kernel
theorem dX4_init_5 : decode cX4_init 5 = .ok (.new 9, 3) := by decide +kernel
theorem dX4_init_8 : decode cX4_init 8 = .ok (.dup, 1) := by decide +kernel
theorem dX4_init_9 : decode cX4_init 9 = .ok (.sipush 800, 3) := by decide +kernel
theorem dX4_init_12 : decode cX4_init 12 = .ok (.invokespecial 11, 3) := by decide +kernel
theorem dX4_init_15 : decode cX4_init 15 = .ok (.putfield 14, 3) := by decide +kernel
theorem dX4_init_18 : decode cX4_init 18 = .ok (.aload_n 0, 1) := by decide +kernel
theorem dX4_init_19 : decode cX4_init 19 = .ok (.new 20, 3) := by decide +kernel
theorem dX4_init_22 : decode cX4_init 22 = .ok (.dup, 1) := by decide +kernel
theorem dX4_init_23 : decode cX4_init 23 = .ok (.invokespecial 22, 3) := by decide +kernel
theorem dX4_init_26 : decode cX4_init 26 = .ok (.putfield 23, 3) := by decide +kernel
theorem dX4_init_29 : decode cX4_init 29 = .ok (.return_, 1) := by decide +kernel
theorem dX4_readTape_0 : decode cX4_readTape 0 = .ok (.aload_n 0, 1) := by decide +kernel
theorem dX4_readTape_1 : decode cX4_readTape 1 = .ok (.getfield 23, 3) := by decide +kernel
theorem dX4_readTape_4 : decode cX4_readTape 4 = .ok (.invokevirtual 27, 3) := by decide +kernel
theorem dX4_readTape_7 : decode cX4_readTape 7 = .ok (.aload_n 0, 1) := by decide +kernel
theorem dX4_readTape_8 : decode cX4_readTape 8 = .ok (.iconst 0, 1) := by decide +kernel
theorem dX4_readTape_9 : decode cX4_readTape 9 = .ok (.putfield 30, 3) := by decide +kernel
theorem dX4_readTape_12 : decode cX4_readTape 12 = .ok (.aload_n 0, 1) := by decide +kernel
theorem dX4_readTape_13 : decode cX4_readTape 13 = .ok (.invokevirtual 34, 3) := by decide +kernel
theorem dX4_readTape_16 : decode cX4_readTape 16 = .ok (.aload_n 0, 1) := by decide +kernel
theorem dX4_readTape_17 : decode cX4_readTape 17 = .ok (.invokevirtual 37, 3) := by decide +kernel
theorem dX4_readTape_20 : decode cX4_readTape 20 = .ok (.ifCond .eq 22, 3) := by decide +kernel
theorem dX4_readTape_23 : decode cX4_readTape 23 = .ok (.aload_n 0, 1) := by decide +kernel
theorem dX4_readTape_24 : decode cX4_readTape 24 = .ok (.invokevirtual 41, 3) := by decide +kernel
theorem dX4_readTape_27 : decode cX4_readTape 27 = .ok (.ifCond .eq 15, 3) := by decide +kernel
theorem dX4_readTape_30 : decode cX4_readTape 30 = .ok (.aload_n 0, 1) := by decide +kernel
theorem dX4_readTape_31 : decode cX4_readTape 31 = .ok (.invokevirtual 44, 3) := by decide +kernel
theorem dX4_readTape_34 : decode cX4_readTape 34 = .ok (.ifCond .eq 8, 3) := by decide +kernel
theorem dX4_readTape_37 : decode cX4_readTape 37 = .ok (.bipush (-2), 2) := by decide +kernel
theorem dX4_readTape_39 : decode cX4_readTape 39 = .ok (.goto 7, 3) := by decide +kernel
theorem dX4_readTape_42 : decode cX4_readTape 42 = .ok (.aload_n 0, 1) := by decide +kernel
theorem dX4_readTape_43 : decode cX4_readTape 43 = .ok (.getfield 47, 3) := by decide +kernel
theorem dX4_readTape_46 : decode cX4_readTape 46 = .ok (.ireturn, 1) := by decide +kernel
theorem dX4_readNumbers_0 : decode cX4_readNumbers 0 = .ok (.aload_n 0, 1) := by decide +kernel
theorem dX4_readNumbers_1 : decode cX4_readNumbers 1 = .ok (.ldc 50, 2) := by decide +kernel
theorem dX4_readNumbers_3 : decode cX4_readNumbers 3 = .ok (.invokevirtual 52, 3) := by decide +kernel
theorem dX4_readNumbers_6 : decode cX4_readNumbers 6 = .ok (.ifCond .eq 144, 3) := by decide +kernel
theorem dX4_readNumbers_9 : decode cX4_readNumbers 9 = .ok (.aload_n 0, 1) := by decide +kernel
theorem dX4_readNumbers_10 : decode cX4_readNumbers 10 = .ok (.iconst 0, 1) := by decide +kernel
theorem dX4_readNumbers_11 : decode cX4_readNumbers 11 = .ok (.iconst 1, 1) := by decide +kernel
theorem dX4_readNumbers_12 : decode cX4_readNumbers 12 = .ok (.bipush 100, 2) := by decide +kernel
theorem dX4_readNumbers_14 : decode cX4_readNumbers 14 = .ok (.invokevirtual 56, 3) := by decide +kernel
theorem dX4_readNumbers_17 : decode cX4_readNumbers 17 = .ok (.ifCond .eq 133, 3) := by decide +kernel
theorem dX4_readNumbers_20 : decode cX4_readNumbers 20 = .ok (.aload_n 0, 1) := by decide +kernel
theorem dX4_readNumbers_21 : decode cX4_readNumbers 21 = .ok (.ldc 60, 2) := by decide +kernel
theorem dX4_readNumbers_23 : decode cX4_readNumbers 23 = .ok (.invokevirtual 52, 3) := by decide +kernel
theorem dX4_readNumbers_26 : decode cX4_readNumbers 26 = .ok (.ifCond .eq 124, 3) := by decide +kernel
theorem dX4_readNumbers_29 : decode cX4_readNumbers 29 = .ok (.aload_n 0, 1) := by decide +kernel
theorem dX4_readNumbers_30 : decode cX4_readNumbers 30 = .ok (.invokevirtual 62, 3) := by decide +kernel
theorem dX4_readNumbers_33 : decode cX4_readNumbers 33 = .ok (.ifCond .eq 117, 3) := by decide +kernel
theorem dX4_readNumbers_36 : decode cX4_readNumbers 36 = .ok (.aload_n 0, 1) := by decide +kernel
theorem dX4_readNumbers_37 : decode cX4_readNumbers 37 = .ok (.ldc 65, 2) := by decide +kernel
theorem dX4_readNumbers_39 : decode cX4_readNumbers 39 = .ok (.invokevirtual 52, 3) := by decide +kernel
theorem dX4_readNumbers_42 : decode cX4_readNumbers 42 = .ok (.ifCond .eq 108, 3) := by decide +kernel
theorem dX4_readNumbers_45 : decode cX4_readNumbers 45 = .ok (.aload_n 0, 1) := by decide +kernel
theorem dX4_readNumbers_46 : decode cX4_readNumbers 46 = .ok (.iconst 5, 1) := by decide +kernel
theorem dX4_readNumbers_47 : decode cX4_readNumbers 47 = .ok (.iconst 0, 1) := by decide +kernel
theorem dX4_readNumbers_48 : decode cX4_readNumbers 48 = .ok (.bipush 9, 2) := by decide +kernel
theorem dX4_readNumbers_50 : decode cX4_readNumbers 50 = .ok (.invokevirtual 56, 3) := by decide +kernel
theorem dX4_readNumbers_53 : decode cX4_readNumbers 53 = .ok (.ifCond .eq 97, 3) := by decide +kernel
theorem dX4_readNumbers_56 : decode cX4_readNumbers 56 = .ok (.aload_n 0, 1) := by decide +kernel
theorem dX4_readNumbers_57 : decode cX4_readNumbers 57 = .ok (.ldc 67, 2) := by decide +kernel
theorem dX4_readNumbers_59 : decode cX4_readNumbers 59 = .ok (.invokevirtual 52, 3) := by decide +kernel
theorem dX4_readNumbers_62 : decode cX4_readNumbers 62 = .ok (.ifCond .eq 88, 3) := by decide +kernel
theorem dX4_readNumbers_65 : decode cX4_readNumbers 65 = .ok (.aload_n 0, 1) := by decide +kernel
theorem dX4_readNumbers_66 : decode cX4_readNumbers 66 = .ok (.bipush 6, 2) := by decide +kernel
theorem dX4_readNumbers_68 : decode cX4_readNumbers 68 = .ok (.iconst 1, 1) := by decide +kernel
theorem dX4_readNumbers_69 : decode cX4_readNumbers 69 = .ok (.bipush 20, 2) := by decide +kernel
theorem dX4_readNumbers_71 : decode cX4_readNumbers 71 = .ok (.invokevirtual 56, 3) := by decide +kernel
theorem dX4_readNumbers_74 : decode cX4_readNumbers 74 = .ok (.ifCond .eq 76, 3) := by decide +kernel
theorem dX4_readNumbers_77 : decode cX4_readNumbers 77 = .ok (.aload_n 0, 1) := by decide +kernel
theorem dX4_readNumbers_78 : decode cX4_readNumbers 78 = .ok (.ldc 69, 2) := by decide +kernel
theorem dX4_readNumbers_80 : decode cX4_readNumbers 80 = .ok (.invokevirtual 52, 3) := by decide +kernel
theorem dX4_readNumbers_83 : decode cX4_readNumbers 83 = .ok (.ifCond .eq 67, 3) := by decide +kernel
theorem dX4_readNumbers_86 : decode cX4_readNumbers 86 = .ok (.aload_n 0, 1) := by decide +kernel
theorem dX4_readNumbers_87 : decode cX4_readNumbers 87 = .ok (.bipush 7, 2) := by decide +kernel
theorem dX4_readNumbers_89 : decode cX4_readNumbers 89 = .ok (.iconst 0, 1) := by decide +kernel
theorem dX4_readNumbers_90 : decode cX4_readNumbers 90 = .ok (.bipush 9, 2) := by decide +kernel
theorem dX4_readNumbers_92 : decode cX4_readNumbers 92 = .ok (.invokevirtual 56, 3) := by decide +kernel
theorem dX4_readNumbers_95 : decode cX4_readNumbers 95 = .ok (.ifCond .eq 55, 3) := by decide +kernel
theorem dX4_readNumbers_98 : decode cX4_readNumbers 98 = .ok (.aload_n 0, 1) := by decide +kernel
theorem dX4_readNumbers_99 : decode cX4_readNumbers 99 = .ok (.ldc 71, 2) := by decide +kernel
theorem dX4_readNumbers_101 : decode cX4_readNumbers 101 = .ok (.invokevirtual 52, 3) := by decide +kernel
theorem dX4_readNumbers_104 : decode cX4_readNumbers 104 = .ok (.ifCond .eq 46, 3) := by decide +kernel
theorem dX4_readNumbers_107 : decode cX4_readNumbers 107 = .ok (.aload_n 0, 1) := by decide +kernel
theorem dX4_readNumbers_108 : decode cX4_readNumbers 108 = .ok (.bipush 8, 2) := by decide +kernel
theorem dX4_readNumbers_110 : decode cX4_readNumbers 110 = .ok (.iconst 0, 1) := by decide +kernel
theorem dX4_readNumbers_111 : decode cX4_readNumbers 111 = .ok (.bipush 30, 2) := by decide +kernel
theorem dX4_readNumbers_113 : decode cX4_readNumbers 113 = .ok (.invokevirtual 56, 3) := by decide +kernel
theorem dX4_readNumbers_116 : decode cX4_readNumbers 116 = .ok (.ifCond .eq 34, 3) := by decide +kernel
theorem dX4_readNumbers_119 : decode cX4_readNumbers 119 = .ok (.aload_n 0, 1) := by decide +kernel
theorem dX4_readNumbers_120 : decode cX4_readNumbers 120 = .ok (.ldc 73, 2) := by decide +kernel
theorem dX4_readNumbers_122 : decode cX4_readNumbers 122 = .ok (.invokevirtual 52, 3) := by decide +kernel
theorem dX4_readNumbers_125 : decode cX4_readNumbers 125 = .ok (.ifCond .eq 25, 3) := by decide +kernel
theorem dX4_readNumbers_128 : decode cX4_readNumbers 128 = .ok (.aload_n 0, 1) := by decide +kernel
theorem dX4_readNumbers_129 : decode cX4_readNumbers 129 = .ok (.bipush 9, 2) := by decide +kernel
theorem dX4_readNumbers_131 : decode cX4_readNumbers 131 = .ok (.iconst 0, 1) := by decide +kernel
theorem dX4_readNumbers_132 : decode cX4_readNumbers 132 = .ok (.iconst 3, 1) := by decide +kernel
theorem dX4_readNumbers_133 : decode cX4_readNumbers 133 = .ok (.invokevirtual 56, 3) := by decide +kernel
theorem dX4_readNumbers_136 : decode cX4_readNumbers 136 = .ok (.ifCond .eq 14, 3) := by decide +kernel
theorem dX4_readNumbers_139 : decode cX4_readNumbers 139 = .ok (.aload_n 0, 1) := by decide +kernel
theorem dX4_readNumbers_140 : decode cX4_readNumbers 140 = .ok (.invokevirtual 75, 3) := by decide +kernel
theorem dX4_readNumbers_143 : decode cX4_readNumbers 143 = .ok (.ifCond .eq 7, 3) := by decide +kernel
theorem dX4_readNumbers_146 : decode cX4_readNumbers 146 = .ok (.iconst 1, 1) := by decide +kernel
theorem dX4_readNumbers_147 : decode cX4_readNumbers 147 = .ok (.goto 4, 3) := by decide +kernel
theorem dX4_readNumbers_150 : decode cX4_readNumbers 150 = .ok (.iconst 0, 1) := by decide +kernel
theorem dX4_readNumbers_151 : decode cX4_readNumbers 151 = .ok (.ireturn, 1) := by decide +kernel
theorem dX4_readShares_0 : decode cX4_readShares 0 = .ok (.iconst 0, 1) := by decide +kernel
theorem dX4_readShares_1 : decode cX4_readShares 1 = .ok (.istore_n 1, 1) := by decide +kernel
theorem dX4_readShares_2 : decode cX4_readShares 2 = .ok (.iload_n 1, 1) := by decide +kernel
theorem dX4_readShares_3 : decode cX4_readShares 3 = .ok (.iconst 4, 1) := by decide +kernel
theorem dX4_readShares_4 : decode cX4_readShares 4 = .ok (.if_icmp .ge 24, 3) := by decide +kernel
theorem dX4_readShares_7 : decode cX4_readShares 7 = .ok (.aload_n 0, 1) := by decide +kernel
theorem dX4_readShares_8 : decode cX4_readShares 8 = .ok (.iconst 1, 1) := by decide +kernel
theorem dX4_readShares_9 : decode cX4_readShares 9 = .ok (.iload_n 1, 1) := by decide +kernel
theorem dX4_readShares_10 : decode cX4_readShares 10 = .ok (.iadd, 1) := by decide +kernel
theorem dX4_readShares_11 : decode cX4_readShares 11 = .ok (.iconst 0, 1) := by decide +kernel
theorem dX4_readShares_12 : decode cX4_readShares 12 = .ok (.bipush 100, 2) := by decide +kernel
theorem dX4_readShares_14 : decode cX4_readShares 14 = .ok (.invokevirtual 56, 3) := by decide +kernel
theorem dX4_readShares_17 : decode cX4_readShares 17 = .ok (.ifCond .ne 5, 3) := by decide +kernel
theorem dX4_readShares_20 : decode cX4_readShares 20 = .ok (.iconst 0, 1) := by decide +kernel
theorem dX4_readShares_21 : decode cX4_readShares 21 = .ok (.ireturn, 1) := by decide +kernel
theorem dX4_readShares_22 : decode cX4_readShares 22 = .ok (.iinc 1 1, 3) := by decide +kernel
theorem dX4_readShares_25 : decode cX4_readShares 25 = .ok (.goto (-23), 3) := by decide +kernel
theorem dX4_readShares_28 : decode cX4_readShares 28 = .ok (.iconst 1, 1) := by decide +kernel
theorem dX4_readShares_29 : decode cX4_readShares 29 = .ok (.ireturn, 1) := by decide +kernel
theorem dX4_readBoats_0 : decode cX4_readBoats 0 = .ok (.iconst 0, 1) := by decide +kernel
theorem dX4_readBoats_1 : decode cX4_readBoats 1 = .ok (.istore_n 1, 1) := by decide +kernel
theorem dX4_readBoats_2 : decode cX4_readBoats 2 = .ok (.iload_n 1, 1) := by decide +kernel
theorem dX4_readBoats_3 : decode cX4_readBoats 3 = .ok (.bipush 6, 2) := by decide +kernel
theorem dX4_readBoats_5 : decode cX4_readBoats 5 = .ok (.if_icmp .ge 71, 3) := by decide +kernel
theorem dX4_readBoats_8 : decode cX4_readBoats 8 = .ok (.aload_n 0, 1) := by decide +kernel
theorem dX4_readBoats_9 : decode cX4_readBoats 9 = .ok (.ldc 78, 2) := by decide +kernel
theorem dX4_readBoats_11 : decode cX4_readBoats 11 = .ok (.invokevirtual 80, 3) := by decide +kernel
theorem dX4_readBoats_14 : decode cX4_readBoats 14 = .ok (.ifCond .eq 62, 3) := by decide +kernel
theorem dX4_readBoats_17 : decode cX4_readBoats 17 = .ok (.aload_n 0, 1) := by decide +kernel
theorem dX4_readBoats_18 : decode cX4_readBoats 18 = .ok (.invokevirtual 34, 3) := by decide +kernel
theorem dX4_readBoats_21 : decode cX4_readBoats 21 = .ok (.aload_n 0, 1) := by decide +kernel
theorem dX4_readBoats_22 : decode cX4_readBoats 22 = .ok (.invokevirtual 83, 3) := by decide +kernel
theorem dX4_readBoats_25 : decode cX4_readBoats 25 = .ok (.ifCond .eq 19, 3) := by decide +kernel
theorem dX4_readBoats_28 : decode cX4_readBoats 28 = .ok (.aload_n 0, 1) := by decide +kernel
theorem dX4_readBoats_29 : decode cX4_readBoats 29 = .ok (.getfield 23, 3) := by decide +kernel
theorem dX4_readBoats_32 : decode cX4_readBoats 32 = .ok (.aload_n 0, 1) := by decide +kernel
theorem dX4_readBoats_33 : decode cX4_readBoats 33 = .ok (.invokevirtual 86, 3) := by decide +kernel
theorem dX4_readBoats_36 : decode cX4_readBoats 36 = .ok (.invokevirtual 90, 3) := by decide +kernel
theorem dX4_readBoats_39 : decode cX4_readBoats 39 = .ok (.bipush (-2), 2) := by decide +kernel
theorem dX4_readBoats_41 : decode cX4_readBoats 41 = .ok (.if_icmp .eq 5, 3) := by decide +kernel
theorem dX4_readBoats_44 : decode cX4_readBoats 44 = .ok (.iconst 0, 1) := by decide +kernel
theorem dX4_readBoats_45 : decode cX4_readBoats 45 = .ok (.ireturn, 1) := by decide +kernel
theorem dX4_readBoats_46 : decode cX4_readBoats 46 = .ok (.aload_n 0, 1) := by decide +kernel
theorem dX4_readBoats_47 : decode cX4_readBoats 47 = .ok (.getfield 23, 3) := by decide +kernel
theorem dX4_readBoats_50 : decode cX4_readBoats 50 = .ok (.aload_n 0, 1) := by decide +kernel
theorem dX4_readBoats_51 : decode cX4_readBoats 51 = .ok (.invokevirtual 86, 3) := by decide +kernel
theorem dX4_readBoats_54 : decode cX4_readBoats 54 = .ok (.invokevirtual 94, 3) := by decide +kernel
theorem dX4_readBoats_57 : decode cX4_readBoats 57 = .ok (.aload_n 0, 1) := by decide +kernel
theorem dX4_readBoats_58 : decode cX4_readBoats 58 = .ok (.invokevirtual 34, 3) := by decide +kernel
theorem dX4_readBoats_61 : decode cX4_readBoats 61 = .ok (.aload_n 0, 1) := by decide +kernel
theorem dX4_readBoats_62 : decode cX4_readBoats 62 = .ok (.invokevirtual 75, 3) := by decide +kernel
theorem dX4_readBoats_65 : decode cX4_readBoats 65 = .ok (.ifCond .ne 5, 3) := by decide +kernel
theorem dX4_readBoats_68 : decode cX4_readBoats 68 = .ok (.iconst 0, 1) := by decide +kernel
theorem dX4_readBoats_69 : decode cX4_readBoats 69 = .ok (.ireturn, 1) := by decide +kernel
theorem dX4_readBoats_70 : decode cX4_readBoats 70 = .ok (.iinc 1 1, 3) := by decide +kernel
theorem dX4_readBoats_73 : decode cX4_readBoats 73 = .ok (.goto (-71), 3) := by decide +kernel
theorem dX4_readBoats_76 : decode cX4_readBoats 76 = .ok (.aload_n 0, 1) := by decide +kernel
theorem dX4_readBoats_77 : decode cX4_readBoats 77 = .ok (.ldc 78, 2) := by decide +kernel
theorem dX4_readBoats_79 : decode cX4_readBoats 79 = .ok (.invokevirtual 80, 3) := by decide +kernel
theorem dX4_readBoats_82 : decode cX4_readBoats 82 = .ok (.ifCond .ne 7, 3) := by decide +kernel
theorem dX4_readBoats_85 : decode cX4_readBoats 85 = .ok (.iconst 1, 1) := by decide +kernel
theorem dX4_readBoats_86 : decode cX4_readBoats 86 = .ok (.goto 4, 3) := by decide +kernel
theorem dX4_readBoats_89 : decode cX4_readBoats 89 = .ok (.iconst 0, 1) := by decide +kernel
theorem dX4_readBoats_90 : decode cX4_readBoats 90 = .ok (.ireturn, 1) := by decide +kernel
theorem dX4_readPeople_0 : decode cX4_readPeople 0 = .ok (.iconst 0, 1) := by decide +kernel
theorem dX4_readPeople_1 : decode cX4_readPeople 1 = .ok (.istore_n 1, 1) := by decide +kernel
theorem dX4_readPeople_2 : decode cX4_readPeople 2 = .ok (.iload_n 1, 1) := by decide +kernel
theorem dX4_readPeople_3 : decode cX4_readPeople 3 = .ok (.bipush 20, 2) := by decide +kernel
theorem dX4_readPeople_5 : decode cX4_readPeople 5 = .ok (.if_icmp .ge 41, 3) := by decide +kernel
theorem dX4_readPeople_8 : decode cX4_readPeople 8 = .ok (.iload_n 1, 1) := by decide +kernel
theorem dX4_readPeople_9 : decode cX4_readPeople 9 = .ok (.iconst 2, 1) := by decide +kernel
theorem dX4_readPeople_10 : decode cX4_readPeople 10 = .ok (.if_icmp .lt 12, 3) := by decide +kernel
theorem dX4_readPeople_13 : decode cX4_readPeople 13 = .ok (.aload_n 0, 1) := by decide +kernel
theorem dX4_readPeople_14 : decode cX4_readPeople 14 = .ok (.getfield 97, 3) := by decide +kernel
theorem dX4_readPeople_17 : decode cX4_readPeople 17 = .ok (.ifCond .ne 5, 3) := by decide +kernel
theorem dX4_readPeople_20 : decode cX4_readPeople 20 = .ok (.iconst 1, 1) := by decide +kernel
theorem dX4_readPeople_21 : decode cX4_readPeople 21 = .ok (.ireturn, 1) := by decide +kernel
theorem dX4_readPeople_22 : decode cX4_readPeople 22 = .ok (.aload_n 0, 1) := by decide +kernel
theorem dX4_readPeople_23 : decode cX4_readPeople 23 = .ok (.ldc 100, 2) := by decide +kernel
theorem dX4_readPeople_25 : decode cX4_readPeople 25 = .ok (.invokevirtual 52, 3) := by decide +kernel
theorem dX4_readPeople_28 : decode cX4_readPeople 28 = .ok (.ifCond .eq 10, 3) := by decide +kernel
theorem dX4_readPeople_31 : decode cX4_readPeople 31 = .ok (.aload_n 0, 1) := by decide +kernel
theorem dX4_readPeople_32 : decode cX4_readPeople 32 = .ok (.invokevirtual 102, 3) := by decide +kernel
theorem dX4_readPeople_35 : decode cX4_readPeople 35 = .ok (.ifCond .ne 5, 3) := by decide +kernel
theorem dX4_readPeople_38 : decode cX4_readPeople 38 = .ok (.iconst 0, 1) := by decide +kernel
theorem dX4_readPeople_39 : decode cX4_readPeople 39 = .ok (.ireturn, 1) := by decide +kernel
theorem dX4_readPeople_40 : decode cX4_readPeople 40 = .ok (.iinc 1 1, 3) := by decide +kernel
theorem dX4_readPeople_43 : decode cX4_readPeople 43 = .ok (.goto (-41), 3) := by decide +kernel
theorem dX4_readPeople_46 : decode cX4_readPeople 46 = .ok (.aload_n 0, 1) := by decide +kernel
theorem dX4_readPeople_47 : decode cX4_readPeople 47 = .ok (.getfield 97, 3) := by decide +kernel
theorem dX4_readPeople_50 : decode cX4_readPeople 50 = .ok (.ifCond .ne 7, 3) := by decide +kernel
theorem dX4_readPeople_53 : decode cX4_readPeople 53 = .ok (.iconst 1, 1) := by decide +kernel
theorem dX4_readPeople_54 : decode cX4_readPeople 54 = .ok (.goto 4, 3) := by decide +kernel
theorem dX4_readPeople_57 : decode cX4_readPeople 57 = .ok (.iconst 0, 1) := by decide +kernel
theorem dX4_readPeople_58 : decode cX4_readPeople 58 = .ok (.ireturn, 1) := by decide +kernel
theorem dX4_readPerson_0 : decode cX4_readPerson 0 = .ok (.aload_n 0, 1) := by decide +kernel
theorem dX4_readPerson_1 : decode cX4_readPerson 1 = .ok (.invokevirtual 83, 3) := by decide +kernel
theorem dX4_readPerson_4 : decode cX4_readPerson 4 = .ok (.ifCond .eq 19, 3) := by decide +kernel
theorem dX4_readPerson_7 : decode cX4_readPerson 7 = .ok (.aload_n 0, 1) := by decide +kernel
theorem dX4_readPerson_8 : decode cX4_readPerson 8 = .ok (.getfield 23, 3) := by decide +kernel
theorem dX4_readPerson_11 : decode cX4_readPerson 11 = .ok (.aload_n 0, 1) := by decide +kernel
theorem dX4_readPerson_12 : decode cX4_readPerson 12 = .ok (.invokevirtual 86, 3) := by decide +kernel
theorem dX4_readPerson_15 : decode cX4_readPerson 15 = .ok (.invokevirtual 105, 3) := by decide +kernel
theorem dX4_readPerson_18 : decode cX4_readPerson 18 = .ok (.bipush (-2), 2) := by decide +kernel
theorem dX4_readPerson_20 : decode cX4_readPerson 20 = .ok (.if_icmp .eq 5, 3) := by decide +kernel
theorem dX4_readPerson_23 : decode cX4_readPerson 23 = .ok (.iconst 0, 1) := by decide +kernel
theorem dX4_readPerson_24 : decode cX4_readPerson 24 = .ok (.ireturn, 1) := by decide +kernel
theorem dX4_readPerson_25 : decode cX4_readPerson 25 = .ok (.aload_n 0, 1) := by decide +kernel
theorem dX4_readPerson_26 : decode cX4_readPerson 26 = .ok (.invokevirtual 86, 3) := by decide +kernel
theorem dX4_readPerson_29 : decode cX4_readPerson 29 = .ok (.istore_n 1, 1) := by decide +kernel
theorem dX4_readPerson_30 : decode cX4_readPerson 30 = .ok (.bipush (-2), 2) := by decide +kernel
theorem dX4_readPerson_32 : decode cX4_readPerson 32 = .ok (.istore_n 2, 1) := by decide +kernel
theorem dX4_readPerson_33 : decode cX4_readPerson 33 = .ok (.aload_n 0, 1) := by decide +kernel
theorem dX4_readPerson_34 : decode cX4_readPerson 34 = .ok (.invokevirtual 34, 3) := by decide +kernel
theorem dX4_readPerson_37 : decode cX4_readPerson 37 = .ok (.aload_n 0, 1) := by decide +kernel
theorem dX4_readPerson_38 : decode cX4_readPerson 38 = .ok (.ldc 108, 2) := by decide +kernel
theorem dX4_readPerson_40 : decode cX4_readPerson 40 = .ok (.invokevirtual 80, 3) := by decide +kernel
theorem dX4_readPerson_43 : decode cX4_readPerson 43 = .ok (.ifCond .eq 38, 3) := by decide +kernel
theorem dX4_readPerson_46 : decode cX4_readPerson 46 = .ok (.aload_n 0, 1) := by decide +kernel
theorem dX4_readPerson_47 : decode cX4_readPerson 47 = .ok (.invokevirtual 34, 3) := by decide +kernel
theorem dX4_readPerson_50 : decode cX4_readPerson 50 = .ok (.aload_n 0, 1) := by decide +kernel
theorem dX4_readPerson_51 : decode cX4_readPerson 51 = .ok (.invokevirtual 83, 3) := by decide +kernel
theorem dX4_readPerson_54 : decode cX4_readPerson 54 = .ok (.ifCond .eq 15, 3) := by decide +kernel
theorem dX4_readPerson_57 : decode cX4_readPerson 57 = .ok (.aload_n 0, 1) := by decide +kernel
theorem dX4_readPerson_58 : decode cX4_readPerson 58 = .ok (.getfield 23, 3) := by decide +kernel
theorem dX4_readPerson_61 : decode cX4_readPerson 61 = .ok (.aload_n 0, 1) := by decide +kernel
theorem dX4_readPerson_62 : decode cX4_readPerson 62 = .ok (.invokevirtual 86, 3) := by decide +kernel
theorem dX4_readPerson_65 : decode cX4_readPerson 65 = .ok (.invokevirtual 90, 3) := by decide +kernel
theorem dX4_readPerson_68 : decode cX4_readPerson 68 = .ok (.istore_n 2, 1) := by decide +kernel
theorem dX4_readPerson_69 : decode cX4_readPerson 69 = .ok (.iload_n 2, 1) := by decide +kernel
theorem dX4_readPerson_70 : decode cX4_readPerson 70 = .ok (.bipush (-2), 2) := by decide +kernel
theorem dX4_readPerson_72 : decode cX4_readPerson 72 = .ok (.if_icmp .ne 5, 3) := by decide +kernel
theorem dX4_readPerson_75 : decode cX4_readPerson 75 = .ok (.iconst 0, 1) := by decide +kernel
theorem dX4_readPerson_76 : decode cX4_readPerson 76 = .ok (.ireturn, 1) := by decide +kernel
theorem dX4_readPerson_77 : decode cX4_readPerson 77 = .ok (.aload_n 0, 1) := by decide +kernel
theorem dX4_readPerson_78 : decode cX4_readPerson 78 = .ok (.invokevirtual 34, 3) := by decide +kernel
theorem dX4_readPerson_81 : decode cX4_readPerson 81 = .ok (.aload_n 0, 1) := by decide +kernel
theorem dX4_readPerson_82 : decode cX4_readPerson 82 = .ok (.getfield 23, 3) := by decide +kernel
theorem dX4_readPerson_85 : decode cX4_readPerson 85 = .ok (.iload_n 1, 1) := by decide +kernel
theorem dX4_readPerson_86 : decode cX4_readPerson 86 = .ok (.iload_n 2, 1) := by decide +kernel
theorem dX4_readPerson_87 : decode cX4_readPerson 87 = .ok (.invokevirtual 110, 3) := by decide +kernel
theorem dX4_readPerson_90 : decode cX4_readPerson 90 = .ok (.aload_n 0, 1) := by decide +kernel
theorem dX4_readPerson_91 : decode cX4_readPerson 91 = .ok (.invokevirtual 75, 3) := by decide +kernel
theorem dX4_readPerson_94 : decode cX4_readPerson 94 = .ok (.ireturn, 1) := by decide +kernel
theorem dX4_readNumber_0 : decode cX4_readNumber 0 = .ok (.aload_n 0, 1) := by decide +kernel
theorem dX4_readNumber_1 : decode cX4_readNumber 1 = .ok (.getfield 97, 3) := by decide +kernel
theorem dX4_readNumber_4 : decode cX4_readNumber 4 = .ok (.iconst 2, 1) := by decide +kernel
theorem dX4_readNumber_5 : decode cX4_readNumber 5 = .ok (.if_icmp .eq 5, 3) := by decide +kernel
theorem dX4_readNumber_8 : decode cX4_readNumber 8 = .ok (.iconst 0, 1) := by decide +kernel
theorem dX4_readNumber_9 : decode cX4_readNumber 9 = .ok (.ireturn, 1) := by decide +kernel
theorem dX4_readNumber_10 : decode cX4_readNumber 10 = .ok (.aload_n 0, 1) := by decide +kernel
theorem dX4_readNumber_11 : decode cX4_readNumber 11 = .ok (.invokevirtual 114, 3) := by decide +kernel
theorem dX4_readNumber_14 : decode cX4_readNumber 14 = .ok (.istore 4, 2) := by decide +kernel
theorem dX4_readNumber_16 : decode cX4_readNumber 16 = .ok (.iload 4, 2) := by decide +kernel
theorem dX4_readNumber_18 : decode cX4_readNumber 18 = .ok (.iload_n 2, 1) := by decide +kernel
theorem dX4_readNumber_19 : decode cX4_readNumber 19 = .ok (.if_icmp .lt 9, 3) := by decide +kernel
theorem dX4_readNumber_22 : decode cX4_readNumber 22 = .ok (.iload 4, 2) := by decide +kernel
theorem dX4_readNumber_24 : decode cX4_readNumber 24 = .ok (.iload_n 3, 1) := by decide +kernel
theorem dX4_readNumber_25 : decode cX4_readNumber 25 = .ok (.if_icmp .le 5, 3) := by decide +kernel
theorem dX4_readNumber_28 : decode cX4_readNumber 28 = .ok (.iconst 0, 1) := by decide +kernel
theorem dX4_readNumber_29 : decode cX4_readNumber 29 = .ok (.ireturn, 1) := by decide +kernel
theorem dX4_readNumber_30 : decode cX4_readNumber 30 = .ok (.aload_n 0, 1) := by decide +kernel
theorem dX4_readNumber_31 : decode cX4_readNumber 31 = .ok (.getfield 23, 3) := by decide +kernel
theorem dX4_readNumber_34 : decode cX4_readNumber 34 = .ok (.iload_n 1, 1) := by decide +kernel
theorem dX4_readNumber_35 : decode cX4_readNumber 35 = .ok (.iload 4, 2) := by decide +kernel
theorem dX4_readNumber_37 : decode cX4_readNumber 37 = .ok (.invokevirtual 117, 3) := by decide +kernel
theorem dX4_readNumber_40 : decode cX4_readNumber 40 = .ok (.aload_n 0, 1) := by decide +kernel
theorem dX4_readNumber_41 : decode cX4_readNumber 41 = .ok (.invokevirtual 34, 3) := by decide +kernel
theorem dX4_readNumber_44 : decode cX4_readNumber 44 = .ok (.iconst 1, 1) := by decide +kernel
theorem dX4_readNumber_45 : decode cX4_readNumber 45 = .ok (.ireturn, 1) := by decide +kernel
theorem dX4_skipKeyword_0 : decode cX4_skipKeyword 0 = .ok (.aload_n 0, 1) := by decide +kernel
theorem dX4_skipKeyword_1 : decode cX4_skipKeyword 1 = .ok (.aload_n 1, 1) := by decide +kernel
theorem dX4_skipKeyword_2 : decode cX4_skipKeyword 2 = .ok (.invokevirtual 80, 3) := by decide +kernel
theorem dX4_skipKeyword_5 : decode cX4_skipKeyword 5 = .ok (.ifCond .ne 5, 3) := by decide +kernel
theorem dX4_skipKeyword_8 : decode cX4_skipKeyword 8 = .ok (.iconst 0, 1) := by decide +kernel
theorem dX4_skipKeyword_9 : decode cX4_skipKeyword 9 = .ok (.ireturn, 1) := by decide +kernel
theorem dX4_skipKeyword_10 : decode cX4_skipKeyword 10 = .ok (.aload_n 0, 1) := by decide +kernel
theorem dX4_skipKeyword_11 : decode cX4_skipKeyword 11 = .ok (.invokevirtual 34, 3) := by decide +kernel
theorem dX4_skipKeyword_14 : decode cX4_skipKeyword 14 = .ok (.iconst 1, 1) := by decide +kernel
theorem dX4_skipKeyword_15 : decode cX4_skipKeyword 15 = .ok (.ireturn, 1) := by decide +kernel
theorem dX4_skipSemicolon_0 : decode cX4_skipSemicolon 0 = .ok (.aload_n 0, 1) := by decide +kernel
theorem dX4_skipSemicolon_1 : decode cX4_skipSemicolon 1 = .ok (.getfield 97, 3) := by decide +kernel
theorem dX4_skipSemicolon_4 : decode cX4_skipSemicolon 4 = .ok (.iconst 3, 1) := by decide +kernel
theorem dX4_skipSemicolon_5 : decode cX4_skipSemicolon 5 = .ok (.if_icmp .eq 5, 3) := by decide +kernel
theorem dX4_skipSemicolon_8 : decode cX4_skipSemicolon 8 = .ok (.iconst 0, 1) := by decide +kernel
theorem dX4_skipSemicolon_9 : decode cX4_skipSemicolon 9 = .ok (.ireturn, 1) := by decide +kernel
theorem dX4_skipSemicolon_10 : decode cX4_skipSemicolon 10 = .ok (.aload_n 0, 1) := by decide +kernel
theorem dX4_skipSemicolon_11 : decode cX4_skipSemicolon 11 = .ok (.invokevirtual 34, 3) := by decide +kernel
theorem dX4_skipSemicolon_14 : decode cX4_skipSemicolon 14 = .ok (.iconst 1, 1) := by decide +kernel
theorem dX4_skipSemicolon_15 : decode cX4_skipSemicolon 15 = .ok (.ireturn, 1) := by decide +kernel
theorem dX4_isKeyword_0 : decode cX4_isKeyword 0 = .ok (.aload_n 0, 1) := by decide +kernel
theorem dX4_isKeyword_1 : decode cX4_isKeyword 1 = .ok (.getfield 97, 3) := by decide +kernel
theorem dX4_isKeyword_4 : decode cX4_isKeyword 4 = .ok (.iconst 1, 1) := by decide +kernel
theorem dX4_isKeyword_5 : decode cX4_isKeyword 5 = .ok (.if_icmp .ne 15, 3) := by decide +kernel
theorem dX4_isKeyword_8 : decode cX4_isKeyword 8 = .ok (.aload_n 0, 1) := by decide +kernel
theorem dX4_isKeyword_9 : decode cX4_isKeyword 9 = .ok (.aload_n 1, 1) := by decide +kernel
theorem dX4_isKeyword_10 : decode cX4_isKeyword 10 = .ok (.invokevirtual 120, 3) := by decide +kernel
theorem dX4_isKeyword_13 : decode cX4_isKeyword 13 = .ok (.ifCond .eq 7, 3) := by decide +kernel
theorem dX4_isKeyword_16 : decode cX4_isKeyword 16 = .ok (.iconst 1, 1) := by decide +kernel
theorem dX4_isKeyword_17 : decode cX4_isKeyword 17 = .ok (.goto 4, 3) := by decide +kernel
theorem dX4_isKeyword_20 : decode cX4_isKeyword 20 = .ok (.iconst 0, 1) := by decide +kernel
theorem dX4_isKeyword_21 : decode cX4_isKeyword 21 = .ok (.ireturn, 1) := by decide +kernel
theorem dX4_isName_0 : decode cX4_isName 0 = .ok (.aload_n 0, 1) := by decide +kernel
theorem dX4_isName_1 : decode cX4_isName 1 = .ok (.getfield 97, 3) := by decide +kernel
theorem dX4_isName_4 : decode cX4_isName 4 = .ok (.iconst 1, 1) := by decide +kernel
theorem dX4_isName_5 : decode cX4_isName 5 = .ok (.if_icmp .ne 28, 3) := by decide +kernel
theorem dX4_isName_8 : decode cX4_isName 8 = .ok (.aload_n 0, 1) := by decide +kernel
theorem dX4_isName_9 : decode cX4_isName 9 = .ok (.getfield 30, 3) := by decide +kernel
theorem dX4_isName_12 : decode cX4_isName 12 = .ok (.aload_n 0, 1) := by decide +kernel
theorem dX4_isName_13 : decode cX4_isName 13 = .ok (.getfield 47, 3) := by decide +kernel
theorem dX4_isName_16 : decode cX4_isName 16 = .ok (.isub, 1) := by decide +kernel
theorem dX4_isName_17 : decode cX4_isName 17 = .ok (.bipush 6, 2) := by decide +kernel
theorem dX4_isName_19 : decode cX4_isName 19 = .ok (.if_icmp .gt 14, 3) := by decide +kernel
theorem dX4_isName_22 : decode cX4_isName 22 = .ok (.aload_n 0, 1) := by decide +kernel
theorem dX4_isName_23 : decode cX4_isName 23 = .ok (.invokevirtual 123, 3) := by decide +kernel
theorem dX4_isName_26 : decode cX4_isName 26 = .ok (.ifCond .ne 7, 3) := by decide +kernel
theorem dX4_isName_29 : decode cX4_isName 29 = .ok (.iconst 1, 1) := by decide +kernel
theorem dX4_isName_30 : decode cX4_isName 30 = .ok (.goto 4, 3) := by decide +kernel
theorem dX4_isName_33 : decode cX4_isName 33 = .ok (.iconst 0, 1) := by decide +kernel
theorem dX4_isName_34 : decode cX4_isName 34 = .ok (.ireturn, 1) := by decide +kernel
theorem dX4_advance_0 : decode cX4_advance 0 = .ok (.aload_n 0, 1) := by decide +kernel
theorem dX4_advance_1 : decode cX4_advance 1 = .ok (.aload_n 0, 1) := by decide +kernel
theorem dX4_advance_2 : decode cX4_advance 2 = .ok (.getfield 30, 3) := by decide +kernel
theorem dX4_advance_5 : decode cX4_advance 5 = .ok (.putfield 47, 3) := by decide +kernel
theorem dX4_advance_8 : decode cX4_advance 8 = .ok (.aload_n 0, 1) := by decide +kernel
theorem dX4_advance_9 : decode cX4_advance 9 = .ok (.getfield 47, 3) := by decide +kernel
theorem dX4_advance_12 : decode cX4_advance 12 = .ok (.aload_n 0, 1) := by decide +kernel
theorem dX4_advance_13 : decode cX4_advance 13 = .ok (.getfield 14, 3) := by decide +kernel
theorem dX4_advance_16 : decode cX4_advance 16 = .ok (.invokevirtual 126, 3) := by decide +kernel
theorem dX4_advance_19 : decode cX4_advance 19 = .ok (.if_icmp .ge 33, 3) := by decide +kernel
theorem dX4_advance_22 : decode cX4_advance 22 = .ok (.aload_n 0, 1) := by decide +kernel
theorem dX4_advance_23 : decode cX4_advance 23 = .ok (.getfield 14, 3) := by decide +kernel
theorem dX4_advance_26 : decode cX4_advance 26 = .ok (.aload_n 0, 1) := by decide +kernel
theorem dX4_advance_27 : decode cX4_advance 27 = .ok (.getfield 47, 3) := by decide +kernel
theorem dX4_advance_30 : decode cX4_advance 30 = .ok (.invokevirtual 129, 3) := by decide +kernel
theorem dX4_advance_33 : decode cX4_advance 33 = .ok (.invokestatic 132, 3) := by decide +kernel
theorem dX4_advance_36 : decode cX4_advance 36 = .ok (.ifCond .eq 16, 3) := by decide +kernel
theorem dX4_advance_39 : decode cX4_advance 39 = .ok (.aload_n 0, 1) := by decide +kernel
theorem dX4_advance_40 : decode cX4_advance 40 = .ok (.dup, 1) := by decide +kernel
theorem dX4_advance_41 : decode cX4_advance 41 = .ok (.getfield 47, 3) := by decide +kernel
theorem dX4_advance_44 : decode cX4_advance 44 = .ok (.iconst 1, 1) := by decide +kernel
theorem dX4_advance_45 : decode cX4_advance 45 = .ok (.iadd, 1) := by decide +kernel
theorem dX4_advance_46 : decode cX4_advance 46 = .ok (.putfield 47, 3) := by decide +kernel
theorem dX4_advance_49 : decode cX4_advance 49 = .ok (.goto (-41), 3) := by decide +kernel
theorem dX4_advance_52 : decode cX4_advance 52 = .ok (.aload_n 0, 1) := by decide +kernel
theorem dX4_advance_53 : decode cX4_advance 53 = .ok (.aload_n 0, 1) := by decide +kernel
theorem dX4_advance_54 : decode cX4_advance 54 = .ok (.getfield 47, 3) := by decide +kernel
theorem dX4_advance_57 : decode cX4_advance 57 = .ok (.putfield 30, 3) := by decide +kernel
theorem dX4_advance_60 : decode cX4_advance 60 = .ok (.aload_n 0, 1) := by decide +kernel
theorem dX4_advance_61 : decode cX4_advance 61 = .ok (.getfield 14, 3) := by decide +kernel
theorem dX4_advance_64 : decode cX4_advance 64 = .ok (.aload_n 0, 1) := by decide +kernel
theorem dX4_advance_65 : decode cX4_advance 65 = .ok (.getfield 47, 3) := by decide +kernel
theorem dX4_advance_68 : decode cX4_advance 68 = .ok (.invokevirtual 129, 3) := by decide +kernel
theorem dX4_advance_71 : decode cX4_advance 71 = .ok (.invokestatic 136, 3) := by decide +kernel
theorem dX4_advance_74 : decode cX4_advance 74 = .ok (.ifCond .eq 55, 3) := by decide +kernel
theorem dX4_advance_77 : decode cX4_advance 77 = .ok (.aload_n 0, 1) := by decide +kernel
theorem dX4_advance_78 : decode cX4_advance 78 = .ok (.getfield 30, 3) := by decide +kernel
theorem dX4_advance_81 : decode cX4_advance 81 = .ok (.aload_n 0, 1) := by decide +kernel
theorem dX4_advance_82 : decode cX4_advance 82 = .ok (.getfield 14, 3) := by decide +kernel
theorem dX4_advance_85 : decode cX4_advance 85 = .ok (.invokevirtual 126, 3) := by decide +kernel
theorem dX4_advance_88 : decode cX4_advance 88 = .ok (.if_icmp .ge 33, 3) := by decide +kernel
theorem dX4_advance_91 : decode cX4_advance 91 = .ok (.aload_n 0, 1) := by decide +kernel
theorem dX4_advance_92 : decode cX4_advance 92 = .ok (.getfield 14, 3) := by decide +kernel
theorem dX4_advance_95 : decode cX4_advance 95 = .ok (.aload_n 0, 1) := by decide +kernel
theorem dX4_advance_96 : decode cX4_advance 96 = .ok (.getfield 30, 3) := by decide +kernel
theorem dX4_advance_99 : decode cX4_advance 99 = .ok (.invokevirtual 129, 3) := by decide +kernel
theorem dX4_advance_102 : decode cX4_advance 102 = .ok (.invokestatic 136, 3) := by decide +kernel
theorem dX4_advance_105 : decode cX4_advance 105 = .ok (.ifCond .eq 16, 3) := by decide +kernel
theorem dX4_advance_108 : decode cX4_advance 108 = .ok (.aload_n 0, 1) := by decide +kernel
theorem dX4_advance_109 : decode cX4_advance 109 = .ok (.dup, 1) := by decide +kernel
theorem dX4_advance_110 : decode cX4_advance 110 = .ok (.getfield 30, 3) := by decide +kernel
theorem dX4_advance_113 : decode cX4_advance 113 = .ok (.iconst 1, 1) := by decide +kernel
theorem dX4_advance_114 : decode cX4_advance 114 = .ok (.iadd, 1) := by decide +kernel
theorem dX4_advance_115 : decode cX4_advance 115 = .ok (.putfield 30, 3) := by decide +kernel
theorem dX4_advance_118 : decode cX4_advance 118 = .ok (.goto (-41), 3) := by decide +kernel
theorem dX4_advance_121 : decode cX4_advance 121 = .ok (.aload_n 0, 1) := by decide +kernel
theorem dX4_advance_122 : decode cX4_advance 122 = .ok (.iconst 1, 1) := by decide +kernel
theorem dX4_advance_123 : decode cX4_advance 123 = .ok (.putfield 97, 3) := by decide +kernel
theorem dX4_advance_126 : decode cX4_advance 126 = .ok (.goto 146, 3) := by decide +kernel
theorem dX4_advance_129 : decode cX4_advance 129 = .ok (.aload_n 0, 1) := by decide +kernel
theorem dX4_advance_130 : decode cX4_advance 130 = .ok (.getfield 14, 3) := by decide +kernel
theorem dX4_advance_133 : decode cX4_advance 133 = .ok (.aload_n 0, 1) := by decide +kernel
theorem dX4_advance_134 : decode cX4_advance 134 = .ok (.getfield 47, 3) := by decide +kernel
theorem dX4_advance_137 : decode cX4_advance 137 = .ok (.invokevirtual 129, 3) := by decide +kernel
theorem dX4_advance_140 : decode cX4_advance 140 = .ok (.invokestatic 139, 3) := by decide +kernel
theorem dX4_advance_143 : decode cX4_advance 143 = .ok (.ifCond .eq 72, 3) := by decide +kernel
theorem dX4_advance_146 : decode cX4_advance 146 = .ok (.aload_n 0, 1) := by decide +kernel
theorem dX4_advance_147 : decode cX4_advance 147 = .ok (.getfield 30, 3) := by decide +kernel
theorem dX4_advance_150 : decode cX4_advance 150 = .ok (.aload_n 0, 1) := by decide +kernel
theorem dX4_advance_151 : decode cX4_advance 151 = .ok (.getfield 14, 3) := by decide +kernel
theorem dX4_advance_154 : decode cX4_advance 154 = .ok (.invokevirtual 126, 3) := by decide +kernel
theorem dX4_advance_157 : decode cX4_advance 157 = .ok (.if_icmp .ge 33, 3) := by decide +kernel
theorem dX4_advance_160 : decode cX4_advance 160 = .ok (.aload_n 0, 1) := by decide +kernel
theorem dX4_advance_161 : decode cX4_advance 161 = .ok (.getfield 14, 3) := by decide +kernel
theorem dX4_advance_164 : decode cX4_advance 164 = .ok (.aload_n 0, 1) := by decide +kernel
theorem dX4_advance_165 : decode cX4_advance 165 = .ok (.getfield 30, 3) := by decide +kernel
theorem dX4_advance_168 : decode cX4_advance 168 = .ok (.invokevirtual 129, 3) := by decide +kernel
theorem dX4_advance_171 : decode cX4_advance 171 = .ok (.invokestatic 139, 3) := by decide +kernel
theorem dX4_advance_174 : decode cX4_advance 174 = .ok (.ifCond .eq 16, 3) := by decide +kernel
theorem dX4_advance_177 : decode cX4_advance 177 = .ok (.aload_n 0, 1) := by decide +kernel
theorem dX4_advance_178 : decode cX4_advance 178 = .ok (.dup, 1) := by decide +kernel
theorem dX4_advance_179 : decode cX4_advance 179 = .ok (.getfield 30, 3) := by decide +kernel
theorem dX4_advance_182 : decode cX4_advance 182 = .ok (.iconst 1, 1) := by decide +kernel
theorem dX4_advance_183 : decode cX4_advance 183 = .ok (.iadd, 1) := by decide +kernel
theorem dX4_advance_184 : decode cX4_advance 184 = .ok (.putfield 30, 3) := by decide +kernel
theorem dX4_advance_187 : decode cX4_advance 187 = .ok (.goto (-41), 3) := by decide +kernel
theorem dX4_advance_190 : decode cX4_advance 190 = .ok (.aload_n 0, 1) := by decide +kernel
theorem dX4_advance_191 : decode cX4_advance 191 = .ok (.aload_n 0, 1) := by decide +kernel
theorem dX4_advance_192 : decode cX4_advance 192 = .ok (.getfield 30, 3) := by decide +kernel
theorem dX4_advance_195 : decode cX4_advance 195 = .ok (.aload_n 0, 1) := by decide +kernel
theorem dX4_advance_196 : decode cX4_advance 196 = .ok (.getfield 47, 3) := by decide +kernel
theorem dX4_advance_199 : decode cX4_advance 199 = .ok (.isub, 1) := by decide +kernel
theorem dX4_advance_200 : decode cX4_advance 200 = .ok (.iconst 3, 1) := by decide +kernel
theorem dX4_advance_201 : decode cX4_advance 201 = .ok (.if_icmp .gt 7, 3) := by decide +kernel
theorem dX4_advance_204 : decode cX4_advance 204 = .ok (.iconst 2, 1) := by decide +kernel
theorem dX4_advance_205 : decode cX4_advance 205 = .ok (.goto 4, 3) := by decide +kernel
theorem dX4_advance_208 : decode cX4_advance 208 = .ok (.iconst 4, 1) := by decide +kernel
theorem dX4_advance_209 : decode cX4_advance 209 = .ok (.putfield 97, 3) := by decide +kernel
theorem dX4_advance_212 : decode cX4_advance 212 = .ok (.goto 60, 3) := by decide +kernel
theorem dX4_advance_215 : decode cX4_advance 215 = .ok (.aload_n 0, 1) := by decide +kernel
theorem dX4_advance_216 : decode cX4_advance 216 = .ok (.getfield 47, 3) := by decide +kernel
theorem dX4_advance_219 : decode cX4_advance 219 = .ok (.aload_n 0, 1) := by decide +kernel
theorem dX4_advance_220 : decode cX4_advance 220 = .ok (.getfield 14, 3) := by decide +kernel
theorem dX4_advance_223 : decode cX4_advance 223 = .ok (.invokevirtual 126, 3) := by decide +kernel
theorem dX4_advance_226 : decode cX4_advance 226 = .ok (.if_icmp .lt 11, 3) := by decide +kernel
theorem dX4_advance_229 : decode cX4_advance 229 = .ok (.aload_n 0, 1) := by decide +kernel
theorem dX4_advance_230 : decode cX4_advance 230 = .ok (.iconst 0, 1) := by decide +kernel
theorem dX4_advance_231 : decode cX4_advance 231 = .ok (.putfield 97, 3) := by decide +kernel
theorem dX4_advance_234 : decode cX4_advance 234 = .ok (.goto 38, 3) := by decide +kernel
theorem dX4_advance_237 : decode cX4_advance 237 = .ok (.aload_n 0, 1) := by decide +kernel
theorem dX4_advance_238 : decode cX4_advance 238 = .ok (.aload_n 0, 1) := by decide +kernel
theorem dX4_advance_239 : decode cX4_advance 239 = .ok (.getfield 14, 3) := by decide +kernel
theorem dX4_advance_242 : decode cX4_advance 242 = .ok (.aload_n 0, 1) := by decide +kernel
theorem dX4_advance_243 : decode cX4_advance 243 = .ok (.getfield 47, 3) := by decide +kernel
theorem dX4_advance_246 : decode cX4_advance 246 = .ok (.invokevirtual 129, 3) := by decide +kernel
theorem dX4_advance_249 : decode cX4_advance 249 = .ok (.bipush 59, 2) := by decide +kernel
theorem dX4_advance_251 : decode cX4_advance 251 = .ok (.if_icmp .ne 7, 3) := by decide +kernel
theorem dX4_advance_254 : decode cX4_advance 254 = .ok (.iconst 3, 1) := by decide +kernel
theorem dX4_advance_255 : decode cX4_advance 255 = .ok (.goto 4, 3) := by decide +kernel
theorem dX4_advance_258 : decode cX4_advance 258 = .ok (.iconst 4, 1) := by decide +kernel
theorem dX4_advance_259 : decode cX4_advance 259 = .ok (.putfield 97, 3) := by decide +kernel
theorem dX4_advance_262 : decode cX4_advance 262 = .ok (.aload_n 0, 1) := by decide +kernel
theorem dX4_advance_263 : decode cX4_advance 263 = .ok (.aload_n 0, 1) := by decide +kernel
theorem dX4_advance_264 : decode cX4_advance 264 = .ok (.getfield 47, 3) := by decide +kernel
theorem dX4_advance_267 : decode cX4_advance 267 = .ok (.iconst 1, 1) := by decide +kernel
theorem dX4_advance_268 : decode cX4_advance 268 = .ok (.iadd, 1) := by decide +kernel
theorem dX4_advance_269 : decode cX4_advance 269 = .ok (.putfield 30, 3) := by decide +kernel
theorem dX4_advance_272 : decode cX4_advance 272 = .ok (.return_, 1) := by decide +kernel
theorem dX4_isAnyKeyword_0 : decode cX4_isAnyKeyword 0 = .ok (.aload_n 0, 1) := by decide +kernel
theorem dX4_isAnyKeyword_1 : decode cX4_isAnyKeyword 1 = .ok (.ldc 50, 2) := by decide +kernel
theorem dX4_isAnyKeyword_3 : decode cX4_isAnyKeyword 3 = .ok (.invokevirtual 120, 3) := by decide +kernel
theorem dX4_isAnyKeyword_6 : decode cX4_isAnyKeyword 6 = .ok (.ifCond .ne 84, 3) := by decide +kernel
theorem dX4_isAnyKeyword_9 : decode cX4_isAnyKeyword 9 = .ok (.aload_n 0, 1) := by decide +kernel
theorem dX4_isAnyKeyword_10 : decode cX4_isAnyKeyword 10 = .ok (.ldc 60, 2) := by decide +kernel
theorem dX4_isAnyKeyword_12 : decode cX4_isAnyKeyword 12 = .ok (.invokevirtual 120, 3) := by decide +kernel
theorem dX4_isAnyKeyword_15 : decode cX4_isAnyKeyword 15 = .ok (.ifCond .ne 75, 3) := by decide +kernel
theorem dX4_isAnyKeyword_18 : decode cX4_isAnyKeyword 18 = .ok (.aload_n 0, 1) := by decide +kernel
theorem dX4_isAnyKeyword_19 : decode cX4_isAnyKeyword 19 = .ok (.ldc 65, 2) := by decide +kernel
theorem dX4_isAnyKeyword_21 : decode cX4_isAnyKeyword 21 = .ok (.invokevirtual 120, 3) := by decide +kernel
theorem dX4_isAnyKeyword_24 : decode cX4_isAnyKeyword 24 = .ok (.ifCond .ne 66, 3) := by decide +kernel
theorem dX4_isAnyKeyword_27 : decode cX4_isAnyKeyword 27 = .ok (.aload_n 0, 1) := by decide +kernel
theorem dX4_isAnyKeyword_28 : decode cX4_isAnyKeyword 28 = .ok (.ldc 67, 2) := by decide +kernel
theorem dX4_isAnyKeyword_30 : decode cX4_isAnyKeyword 30 = .ok (.invokevirtual 120, 3) := by decide +kernel
theorem dX4_isAnyKeyword_33 : decode cX4_isAnyKeyword 33 = .ok (.ifCond .ne 57, 3) := by decide +kernel
theorem dX4_isAnyKeyword_36 : decode cX4_isAnyKeyword 36 = .ok (.aload_n 0, 1) := by decide +kernel
theorem dX4_isAnyKeyword_37 : decode cX4_isAnyKeyword 37 = .ok (.ldc 69, 2) := by decide +kernel
theorem dX4_isAnyKeyword_39 : decode cX4_isAnyKeyword 39 = .ok (.invokevirtual 120, 3) := by decide +kernel
theorem dX4_isAnyKeyword_42 : decode cX4_isAnyKeyword 42 = .ok (.ifCond .ne 48, 3) := by decide +kernel
theorem dX4_isAnyKeyword_45 : decode cX4_isAnyKeyword 45 = .ok (.aload_n 0, 1) := by decide +kernel
theorem dX4_isAnyKeyword_46 : decode cX4_isAnyKeyword 46 = .ok (.ldc 71, 2) := by decide +kernel
theorem dX4_isAnyKeyword_48 : decode cX4_isAnyKeyword 48 = .ok (.invokevirtual 120, 3) := by decide +kernel
theorem dX4_isAnyKeyword_51 : decode cX4_isAnyKeyword 51 = .ok (.ifCond .ne 39, 3) := by decide +kernel
theorem dX4_isAnyKeyword_54 : decode cX4_isAnyKeyword 54 = .ok (.aload_n 0, 1) := by decide +kernel
theorem dX4_isAnyKeyword_55 : decode cX4_isAnyKeyword 55 = .ok (.ldc 73, 2) := by decide +kernel
theorem dX4_isAnyKeyword_57 : decode cX4_isAnyKeyword 57 = .ok (.invokevirtual 120, 3) := by decide +kernel
theorem dX4_isAnyKeyword_60 : decode cX4_isAnyKeyword 60 = .ok (.ifCond .ne 30, 3) := by decide +kernel
theorem dX4_isAnyKeyword_63 : decode cX4_isAnyKeyword 63 = .ok (.aload_n 0, 1) := by decide +kernel
theorem dX4_isAnyKeyword_64 : decode cX4_isAnyKeyword 64 = .ok (.ldc 78, 2) := by decide +kernel
theorem dX4_isAnyKeyword_66 : decode cX4_isAnyKeyword 66 = .ok (.invokevirtual 120, 3) := by decide +kernel
theorem dX4_isAnyKeyword_69 : decode cX4_isAnyKeyword 69 = .ok (.ifCond .ne 21, 3) := by decide +kernel
theorem dX4_isAnyKeyword_72 : decode cX4_isAnyKeyword 72 = .ok (.aload_n 0, 1) := by decide +kernel
theorem dX4_isAnyKeyword_73 : decode cX4_isAnyKeyword 73 = .ok (.ldc 100, 2) := by decide +kernel
theorem dX4_isAnyKeyword_75 : decode cX4_isAnyKeyword 75 = .ok (.invokevirtual 120, 3) := by decide +kernel
theorem dX4_isAnyKeyword_78 : decode cX4_isAnyKeyword 78 = .ok (.ifCond .ne 12, 3) := by decide +kernel
theorem dX4_isAnyKeyword_81 : decode cX4_isAnyKeyword 81 = .ok (.aload_n 0, 1) := by decide +kernel
theorem dX4_isAnyKeyword_82 : decode cX4_isAnyKeyword 82 = .ok (.ldc 108, 2) := by decide +kernel
theorem dX4_isAnyKeyword_84 : decode cX4_isAnyKeyword 84 = .ok (.invokevirtual 120, 3) := by decide +kernel
theorem dX4_isAnyKeyword_87 : decode cX4_isAnyKeyword 87 = .ok (.ifCond .eq 7, 3) := by decide +kernel
theorem dX4_isAnyKeyword_90 : decode cX4_isAnyKeyword 90 = .ok (.iconst 1, 1) := by decide +kernel
theorem dX4_isAnyKeyword_91 : decode cX4_isAnyKeyword 91 = .ok (.goto 4, 3) := by decide +kernel
theorem dX4_isAnyKeyword_94 : decode cX4_isAnyKeyword 94 = .ok (.iconst 0, 1) := by decide +kernel
theorem dX4_isAnyKeyword_95 : decode cX4_isAnyKeyword 95 = .ok (.ireturn, 1) := by decide +kernel
theorem dX4_reads_0 : decode cX4_reads 0 = .ok (.aload_n 0, 1) := by decide +kernel
theorem dX4_reads_1 : decode cX4_reads 1 = .ok (.getfield 30, 3) := by decide +kernel
theorem dX4_reads_4 : decode cX4_reads 4 = .ok (.aload_n 0, 1) := by decide +kernel
theorem dX4_reads_5 : decode cX4_reads 5 = .ok (.getfield 47, 3) := by decide +kernel
theorem dX4_reads_8 : decode cX4_reads 8 = .ok (.isub, 1) := by decide +kernel
theorem dX4_reads_9 : decode cX4_reads 9 = .ok (.aload_n 1, 1) := by decide +kernel
theorem dX4_reads_10 : decode cX4_reads 10 = .ok (.invokevirtual 142, 3) := by decide +kernel
theorem dX4_reads_13 : decode cX4_reads 13 = .ok (.if_icmp .eq 5, 3) := by decide +kernel
theorem dX4_reads_16 : decode cX4_reads 16 = .ok (.iconst 0, 1) := by decide +kernel
theorem dX4_reads_17 : decode cX4_reads 17 = .ok (.ireturn, 1) := by decide +kernel
theorem dX4_reads_18 : decode cX4_reads 18 = .ok (.iconst 0, 1) := by decide +kernel
theorem dX4_reads_19 : decode cX4_reads 19 = .ok (.istore_n 2, 1) := by decide +kernel
theorem dX4_reads_20 : decode cX4_reads 20 = .ok (.iload_n 2, 1) := by decide +kernel
theorem dX4_reads_21 : decode cX4_reads 21 = .ok (.aload_n 1, 1) := by decide +kernel
theorem dX4_reads_22 : decode cX4_reads 22 = .ok (.invokevirtual 142, 3) := by decide +kernel
theorem dX4_reads_25 : decode cX4_reads 25 = .ok (.if_icmp .ge 32, 3) := by decide +kernel
theorem dX4_reads_28 : decode cX4_reads 28 = .ok (.aload_n 0, 1) := by decide +kernel
theorem dX4_reads_29 : decode cX4_reads 29 = .ok (.getfield 14, 3) := by decide +kernel
theorem dX4_reads_32 : decode cX4_reads 32 = .ok (.aload_n 0, 1) := by decide +kernel
theorem dX4_reads_33 : decode cX4_reads 33 = .ok (.getfield 47, 3) := by decide +kernel
theorem dX4_reads_36 : decode cX4_reads 36 = .ok (.iload_n 2, 1) := by decide +kernel
theorem dX4_reads_37 : decode cX4_reads 37 = .ok (.iadd, 1) := by decide +kernel
theorem dX4_reads_38 : decode cX4_reads 38 = .ok (.invokevirtual 129, 3) := by decide +kernel
theorem dX4_reads_41 : decode cX4_reads 41 = .ok (.aload_n 1, 1) := by decide +kernel
theorem dX4_reads_42 : decode cX4_reads 42 = .ok (.iload_n 2, 1) := by decide +kernel
theorem dX4_reads_43 : decode cX4_reads 43 = .ok (.invokevirtual 145, 3) := by decide +kernel
theorem dX4_reads_46 : decode cX4_reads 46 = .ok (.if_icmp .eq 5, 3) := by decide +kernel
theorem dX4_reads_49 : decode cX4_reads 49 = .ok (.iconst 0, 1) := by decide +kernel
theorem dX4_reads_50 : decode cX4_reads 50 = .ok (.ireturn, 1) := by decide +kernel
theorem dX4_reads_51 : decode cX4_reads 51 = .ok (.iinc 2 1, 3) := by decide +kernel
theorem dX4_reads_54 : decode cX4_reads 54 = .ok (.goto (-34), 3) := by decide +kernel
theorem dX4_reads_57 : decode cX4_reads 57 = .ok (.iconst 1, 1) := by decide +kernel
theorem dX4_reads_58 : decode cX4_reads 58 = .ok (.ireturn, 1) := by decide +kernel
theorem dX4_letters_0 : decode cX4_letters 0 = .ok (.iconst 0, 1) := by decide +kernel
theorem dX4_letters_1 : decode cX4_letters 1 = .ok (.istore_n 1, 1) := by decide +kernel
theorem dX4_letters_2 : decode cX4_letters 2 = .ok (.bipush 25, 2) := by decide +kernel
theorem dX4_letters_4 : decode cX4_letters 4 = .ok (.istore_n 2, 1) := by decide +kernel
theorem dX4_letters_5 : decode cX4_letters 5 = .ok (.aload_n 0, 1) := by decide +kernel
theorem dX4_letters_6 : decode cX4_letters 6 = .ok (.getfield 47, 3) := by decide +kernel
theorem dX4_letters_9 : decode cX4_letters 9 = .ok (.istore_n 3, 1) := by decide +kernel
theorem dX4_letters_10 : decode cX4_letters 10 = .ok (.iload_n 3, 1) := by decide +kernel
theorem dX4_letters_11 : decode cX4_letters 11 = .ok (.aload_n 0, 1) := by decide +kernel
theorem dX4_letters_12 : decode cX4_letters 12 = .ok (.getfield 30, 3) := by decide +kernel
theorem dX4_letters_15 : decode cX4_letters 15 = .ok (.if_icmp .ge 34, 3) := by decide +kernel
theorem dX4_letters_18 : decode cX4_letters 18 = .ok (.iload_n 2, 1) := by decide +kernel
theorem dX4_letters_19 : decode cX4_letters 19 = .ok (.ifCond .lt 30, 3) := by decide +kernel
theorem dX4_letters_22 : decode cX4_letters 22 = .ok (.iload_n 1, 1) := by decide +kernel
theorem dX4_letters_23 : decode cX4_letters 23 = .ok (.aload_n 0, 1) := by decide +kernel
theorem dX4_letters_24 : decode cX4_letters 24 = .ok (.getfield 14, 3) := by decide +kernel
theorem dX4_letters_27 : decode cX4_letters 27 = .ok (.iload_n 3, 1) := by decide +kernel
theorem dX4_letters_28 : decode cX4_letters 28 = .ok (.invokevirtual 129, 3) := by decide +kernel
theorem dX4_letters_31 : decode cX4_letters 31 = .ok (.bipush 97, 2) := by decide +kernel
theorem dX4_letters_33 : decode cX4_letters 33 = .ok (.isub, 1) := by decide +kernel
theorem dX4_letters_34 : decode cX4_letters 34 = .ok (.iconst 1, 1) := by decide +kernel
theorem dX4_letters_35 : decode cX4_letters 35 = .ok (.iadd, 1) := by decide +kernel
theorem dX4_letters_36 : decode cX4_letters 36 = .ok (.iload_n 2, 1) := by decide +kernel
theorem dX4_letters_37 : decode cX4_letters 37 = .ok (.ishl, 1) := by decide +kernel
theorem dX4_letters_38 : decode cX4_letters 38 = .ok (.ior, 1) := by decide +kernel
theorem dX4_letters_39 : decode cX4_letters 39 = .ok (.istore_n 1, 1) := by decide +kernel
theorem dX4_letters_40 : decode cX4_letters 40 = .ok (.iinc 2 (-5), 3) := by decide +kernel
theorem dX4_letters_43 : decode cX4_letters 43 = .ok (.iinc 3 1, 3) := by decide +kernel
theorem dX4_letters_46 : decode cX4_letters 46 = .ok (.goto (-36), 3) := by decide +kernel
theorem dX4_letters_49 : decode cX4_letters 49 = .ok (.iload_n 1, 1) := by decide +kernel
theorem dX4_letters_50 : decode cX4_letters 50 = .ok (.ireturn, 1) := by decide +kernel
theorem dX4_digits_0 : decode cX4_digits 0 = .ok (.iconst 0, 1) := by decide +kernel
theorem dX4_digits_1 : decode cX4_digits 1 = .ok (.istore_n 1, 1) := by decide +kernel
theorem dX4_digits_2 : decode cX4_digits 2 = .ok (.aload_n 0, 1) := by decide +kernel
theorem dX4_digits_3 : decode cX4_digits 3 = .ok (.getfield 47, 3) := by decide +kernel
theorem dX4_digits_6 : decode cX4_digits 6 = .ok (.istore_n 2, 1) := by decide +kernel
theorem dX4_digits_7 : decode cX4_digits 7 = .ok (.iload_n 2, 1) := by decide +kernel
theorem dX4_digits_8 : decode cX4_digits 8 = .ok (.aload_n 0, 1) := by decide +kernel
theorem dX4_digits_9 : decode cX4_digits 9 = .ok (.getfield 30, 3) := by decide +kernel
theorem dX4_digits_12 : decode cX4_digits 12 = .ok (.if_icmp .ge 26, 3) := by decide +kernel
theorem dX4_digits_15 : decode cX4_digits 15 = .ok (.iload_n 1, 1) := by decide +kernel
theorem dX4_digits_16 : decode cX4_digits 16 = .ok (.bipush 10, 2) := by decide +kernel
theorem dX4_digits_18 : decode cX4_digits 18 = .ok (.imul, 1) := by decide +kernel
theorem dX4_digits_19 : decode cX4_digits 19 = .ok (.aload_n 0, 1) := by decide +kernel
theorem dX4_digits_20 : decode cX4_digits 20 = .ok (.getfield 14, 3) := by decide +kernel
theorem dX4_digits_23 : decode cX4_digits 23 = .ok (.iload_n 2, 1) := by decide +kernel
theorem dX4_digits_24 : decode cX4_digits 24 = .ok (.invokevirtual 129, 3) := by decide +kernel
theorem dX4_digits_27 : decode cX4_digits 27 = .ok (.iadd, 1) := by decide +kernel
theorem dX4_digits_28 : decode cX4_digits 28 = .ok (.bipush 48, 2) := by decide +kernel
theorem dX4_digits_30 : decode cX4_digits 30 = .ok (.isub, 1) := by decide +kernel
theorem dX4_digits_31 : decode cX4_digits 31 = .ok (.istore_n 1, 1) := by decide +kernel
theorem dX4_digits_32 : decode cX4_digits 32 = .ok (.iinc 2 1, 3) := by decide +kernel
theorem dX4_digits_35 : decode cX4_digits 35 = .ok (.goto (-28), 3) := by decide +kernel
theorem dX4_digits_38 : decode cX4_digits 38 = .ok (.iload_n 1, 1) := by decide +kernel
theorem dX4_digits_39 : decode cX4_digits 39 = .ok (.ireturn, 1) := by decide +kernel
theorem dX4_isSpace_0 : decode cX4_isSpace 0 = .ok (.iload_n 0, 1) := by decide +kernel
theorem dX4_isSpace_1 : decode cX4_isSpace 1 = .ok (.bipush 32, 2) := by decide +kernel
theorem dX4_isSpace_3 : decode cX4_isSpace 3 = .ok (.if_icmp .eq 9, 3) := by decide +kernel
theorem dX4_isSpace_6 : decode cX4_isSpace 6 = .ok (.iload_n 0, 1) := by decide +kernel
theorem dX4_isSpace_7 : decode cX4_isSpace 7 = .ok (.bipush 10, 2) := by decide +kernel
theorem dX4_isSpace_9 : decode cX4_isSpace 9 = .ok (.if_icmp .ne 7, 3) := by decide +kernel
theorem dX4_isSpace_12 : decode cX4_isSpace 12 = .ok (.iconst 1, 1) := by decide +kernel
theorem dX4_isSpace_13 : decode cX4_isSpace 13 = .ok (.goto 4, 3) := by decide +kernel
theorem dX4_isSpace_16 : decode cX4_isSpace 16 = .ok (.iconst 0, 1) := by decide +kernel
theorem dX4_isSpace_17 : decode cX4_isSpace 17 = .ok (.ireturn, 1) := by decide +kernel
theorem dX4_isLetter_0 : decode cX4_isLetter 0 = .ok (.iload_n 0, 1) := by decide +kernel
theorem dX4_isLetter_1 : decode cX4_isLetter 1 = .ok (.bipush 97, 2) := by decide +kernel
theorem dX4_isLetter_3 : decode cX4_isLetter 3 = .ok (.if_icmp .lt 13, 3) := by decide +kernel
theorem dX4_isLetter_6 : decode cX4_isLetter 6 = .ok (.iload_n 0, 1) := by decide +kernel
theorem dX4_isLetter_7 : decode cX4_isLetter 7 = .ok (.bipush 122, 2) := by decide +kernel
theorem dX4_isLetter_9 : decode cX4_isLetter 9 = .ok (.if_icmp .gt 7, 3) := by decide +kernel
theorem dX4_isLetter_12 : decode cX4_isLetter 12 = .ok (.iconst 1, 1) := by decide +kernel
theorem dX4_isLetter_13 : decode cX4_isLetter 13 = .ok (.goto 4, 3) := by decide +kernel
theorem dX4_isLetter_16 : decode cX4_isLetter 16 = .ok (.iconst 0, 1) := by decide +kernel
theorem dX4_isLetter_17 : decode cX4_isLetter 17 = .ok (.ireturn, 1) := by decide +kernel
theorem dX4_isDigit_0 : decode cX4_isDigit 0 = .ok (.iload_n 0, 1) := by decide +kernel
theorem dX4_isDigit_1 : decode cX4_isDigit 1 = .ok (.bipush 48, 2) := by decide +kernel
theorem dX4_isDigit_3 : decode cX4_isDigit 3 = .ok (.if_icmp .lt 13, 3) := by decide +kernel
theorem dX4_isDigit_6 : decode cX4_isDigit 6 = .ok (.iload_n 0, 1) := by decide +kernel
theorem dX4_isDigit_7 : decode cX4_isDigit 7 = .ok (.bipush 57, 2) := by decide +kernel
theorem dX4_isDigit_9 : decode cX4_isDigit 9 = .ok (.if_icmp .gt 7, 3) := by decide +kernel
theorem dX4_isDigit_12 : decode cX4_isDigit 12 = .ok (.iconst 1, 1) := by decide +kernel
theorem dX4_isDigit_13 : decode cX4_isDigit 13 = .ok (.goto 4, 3) := by decide +kernel
theorem dX4_isDigit_16 : decode cX4_isDigit 16 = .ok (.iconst 0, 1) := by decide +kernel
theorem dX4_isDigit_17 : decode cX4_isDigit 17 = .ok (.ireturn, 1) := by decide +kernel
theorem dX5_init_0 : decode cX5_init 0 = .ok (.aload_n 0, 1) := by decide +kernel
theorem dX5_init_1 : decode cX5_init 1 = .ok (.invokespecial 3, 3) := by decide +kernel
theorem dX5_init_4 : decode cX5_init 4 = .ok (.aload_n 0, 1) := by decide +kernel
theorem dX5_init_5 : decode cX5_init 5 = .ok (.iload_n 1, 1) := by decide +kernel
theorem dX5_init_6 : decode cX5_init 6 = .ok (.iconst 1, 1) := by decide +kernel
theorem dX5_init_7 : decode cX5_init 7 = .ok (.invokestatic 9, 3) := by decide +kernel
theorem dX5_init_10 : decode cX5_init 10 = .ok (.putfield 15, 3) := by decide +kernel
theorem dX5_init_13 : decode cX5_init 13 = .ok (.aload_n 0, 1) := by decide +kernel
theorem dX5_init_14 : decode cX5_init 14 = .ok (.aload_n 0, 1) := by decide +kernel
theorem dX5_init_15 : decode cX5_init 15 = .ok (.getfield 15, 3) := by decide +kernel
theorem dX5_init_18 : decode cX5_init 18 = .ok (.iconst 4, 1) := by decide +kernel
theorem dX5_init_19 : decode cX5_init 19 = .ok (.imul, 1) := by decide +kernel
theorem dX5_init_20 : decode cX5_init 20 = .ok (.newarray .int, 2) := by decide +kernel
theorem dX5_init_22 : decode cX5_init 22 = .ok (.putfield 21, 3) := by decide +kernel
theorem dX5_init_25 : decode cX5_init 25 = .ok (.return_, 1) := by decide +kernel
theorem dX5_clear_0 : decode cX5_clear 0 = .ok (.aload_n 0, 1) := by decide +kernel
theorem dX5_clear_1 : decode cX5_clear 1 = .ok (.iconst 0, 1) := by decide +kernel
theorem dX5_clear_2 : decode cX5_clear 2 = .ok (.putfield 25, 3) := by decide +kernel
theorem dX5_clear_5 : decode cX5_clear 5 = .ok (.return_, 1) := by decide +kernel
theorem dX5_copyFrom_0 : decode cX5_copyFrom 0 = .ok (.aload_n 1, 1) := by decide +kernel
theorem dX5_copyFrom_1 : decode cX5_copyFrom 1 = .ok (.getfield 21, 3) := by decide +kernel
theorem dX5_copyFrom_4 : decode cX5_copyFrom 4 = .ok (.aload_n 0, 1) := by decide +kernel
theorem dX5_copyFrom_5 : decode cX5_copyFrom 5 = .ok (.getfield 21, 3) := by decide +kernel
theorem dX5_copyFrom_8 : decode cX5_copyFrom 8 = .ok (.invokestatic 28, 3) := by decide +kernel
theorem dX5_copyFrom_11 : decode cX5_copyFrom 11 = .ok (.aload_n 0, 1) := by decide +kernel
theorem dX5_copyFrom_12 : decode cX5_copyFrom 12 = .ok (.aload_n 1, 1) := by decide +kernel
theorem dX5_copyFrom_13 : decode cX5_copyFrom 13 = .ok (.getfield 25, 3) := by decide +kernel
theorem dX5_copyFrom_16 : decode cX5_copyFrom 16 = .ok (.putfield 25, 3) := by decide +kernel
theorem dX5_copyFrom_19 : decode cX5_copyFrom 19 = .ok (.return_, 1) := by decide +kernel
theorem dX5_size_0 : decode cX5_size 0 = .ok (.aload_n 0, 1) := by decide +kernel
theorem dX5_size_1 : decode cX5_size 1 = .ok (.getfield 25, 3) := by decide +kernel
theorem dX5_size_4 : decode cX5_size 4 = .ok (.aload_n 0, 1) := by decide +kernel
theorem dX5_size_5 : decode cX5_size 5 = .ok (.getfield 15, 3) := by decide +kernel
theorem dX5_size_8 : decode cX5_size 8 = .ok (.invokestatic 32, 3) := by decide +kernel
theorem dX5_size_11 : decode cX5_size 11 = .ok (.ireturn, 1) := by decide +kernel
theorem dX5_oldest_0 : decode cX5_oldest 0 = .ok (.aload_n 0, 1) := by decide +kernel
theorem dX5_oldest_1 : decode cX5_oldest 1 = .ok (.getfield 25, 3) := by decide +kernel
theorem dX5_oldest_4 : decode cX5_oldest 4 = .ok (.aload_n 0, 1) := by decide +kernel
theorem dX5_oldest_5 : decode cX5_oldest 5 = .ok (.getfield 15, 3) := by decide +kernel
theorem dX5_oldest_8 : decode cX5_oldest 8 = .ok (.isub, 1) := by decide +kernel
theorem dX5_oldest_9 : decode cX5_oldest 9 = .ok (.iconst 0, 1) := by decide +kernel
theorem dX5_oldest_10 : decode cX5_oldest 10 = .ok (.invokestatic 9, 3) := by decide +kernel
theorem dX5_oldest_13 : decode cX5_oldest 13 = .ok (.ireturn, 1) := by decide +kernel
theorem dX5_add_0 : decode cX5_add 0 = .ok (.aload_n 0, 1) := by decide +kernel
theorem dX5_add_1 : decode cX5_add 1 = .ok (.aload_n 0, 1) := by decide +kernel
theorem dX5_add_2 : decode cX5_add 2 = .ok (.getfield 25, 3) := by decide +kernel
theorem dX5_add_5 : decode cX5_add 5 = .ok (.invokevirtual 35, 3) := by decide +kernel
theorem dX5_add_8 : decode cX5_add 8 = .ok (.istore 5, 2) := by decide +kernel
theorem dX5_add_10 : decode cX5_add 10 = .ok (.aload_n 0, 1) := by decide +kernel
theorem dX5_add_11 : decode cX5_add 11 = .ok (.getfield 21, 3) := by decide +kernel
theorem dX5_add_14 : decode cX5_add 14 = .ok (.iload 5, 2) := by decide +kernel
theorem dX5_add_16 : decode cX5_add 16 = .ok (.iload_n 1, 1) := by decide +kernel
theorem dX5_add_17 : decode cX5_add 17 = .ok (.invokestatic 39, 3) := by decide +kernel
theorem dX5_add_20 : decode cX5_add 20 = .ok (.aload_n 0, 1) := by decide +kernel
theorem dX5_add_21 : decode cX5_add 21 = .ok (.getfield 21, 3) := by decide +kernel
theorem dX5_add_24 : decode cX5_add 24 = .ok (.iload 5, 2) := by decide +kernel
theorem dX5_add_26 : decode cX5_add 26 = .ok (.iconst 1, 1) := by decide +kernel
theorem dX5_add_27 : decode cX5_add 27 = .ok (.iadd, 1) := by decide +kernel
theorem dX5_add_28 : decode cX5_add 28 = .ok (.iload_n 2, 1) := by decide +kernel
theorem dX5_add_29 : decode cX5_add 29 = .ok (.invokestatic 39, 3) := by decide +kernel
theorem dX5_add_32 : decode cX5_add 32 = .ok (.aload_n 0, 1) := by decide +kernel
theorem dX5_add_33 : decode cX5_add 33 = .ok (.getfield 21, 3) := by decide +kernel
theorem dX5_add_36 : decode cX5_add 36 = .ok (.iload 5, 2) := by decide +kernel
theorem dX5_add_38 : decode cX5_add 38 = .ok (.iconst 2, 1) := by decide +kernel
theorem dX5_add_39 : decode cX5_add 39 = .ok (.iadd, 1) := by decide +kernel
theorem dX5_add_40 : decode cX5_add 40 = .ok (.iload_n 3, 1) := by decide +kernel
theorem dX5_add_41 : decode cX5_add 41 = .ok (.invokestatic 39, 3) := by decide +kernel
theorem dX5_add_44 : decode cX5_add 44 = .ok (.aload_n 0, 1) := by decide +kernel
theorem dX5_add_45 : decode cX5_add 45 = .ok (.getfield 21, 3) := by decide +kernel
theorem dX5_add_48 : decode cX5_add 48 = .ok (.iload 5, 2) := by decide +kernel
theorem dX5_add_50 : decode cX5_add 50 = .ok (.iconst 3, 1) := by decide +kernel
theorem dX5_add_51 : decode cX5_add 51 = .ok (.iadd, 1) := by decide +kernel
theorem dX5_add_52 : decode cX5_add 52 = .ok (.iload 4, 2) := by decide +kernel
theorem dX5_add_54 : decode cX5_add 54 = .ok (.invokestatic 39, 3) := by decide +kernel
theorem dX5_add_57 : decode cX5_add 57 = .ok (.aload_n 0, 1) := by decide +kernel
theorem dX5_add_58 : decode cX5_add 58 = .ok (.dup, 1) := by decide +kernel
theorem dX5_add_59 : decode cX5_add 59 = .ok (.getfield 25, 3) := by decide +kernel
theorem dX5_add_62 : decode cX5_add 62 = .ok (.iconst 1, 1) := by decide +kernel
theorem dX5_add_63 : decode cX5_add 63 = .ok (.iadd, 1) := by decide +kernel
theorem dX5_add_64 : decode cX5_add 64 = .ok (.putfield 25, 3) := by decide +kernel
theorem dX5_add_67 : decode cX5_add 67 = .ok (.return_, 1) := by decide +kernel
theorem dX5_has_0 : decode cX5_has 0 = .ok (.iload_n 1, 1) := by decide +kernel
theorem dX5_has_1 : decode cX5_has 1 = .ok (.aload_n 0, 1) := by decide +kernel
theorem dX5_has_2 : decode cX5_has 2 = .ok (.invokevirtual 43, 3) := by decide +kernel
theorem dX5_has_5 : decode cX5_has 5 = .ok (.if_icmp .lt 15, 3) := by decide +kernel
theorem dX5_has_8 : decode cX5_has 8 = .ok (.iload_n 1, 1) := by decide +kernel
theorem dX5_has_9 : decode cX5_has 9 = .ok (.aload_n 0, 1) := by decide +kernel
theorem dX5_has_10 : decode cX5_has 10 = .ok (.getfield 25, 3) := by decide +kernel
theorem dX5_has_13 : decode cX5_has 13 = .ok (.if_icmp .ge 7, 3) := by decide +kernel
theorem dX5_has_16 : decode cX5_has 16 = .ok (.iconst 1, 1) := by decide +kernel
theorem dX5_has_17 : decode cX5_has 17 = .ok (.goto 4, 3) := by decide +kernel
theorem dX5_has_20 : decode cX5_has 20 = .ok (.iconst 0, 1) := by decide +kernel
theorem dX5_has_21 : decode cX5_has 21 = .ok (.ireturn, 1) := by decide +kernel
theorem dX5_part_0 : decode cX5_part 0 = .ok (.aload_n 0, 1) := by decide +kernel
theorem dX5_part_1 : decode cX5_part 1 = .ok (.iload_n 1, 1) := by decide +kernel
theorem dX5_part_2 : decode cX5_part 2 = .ok (.invokevirtual 47, 3) := by decide +kernel
theorem dX5_part_5 : decode cX5_part 5 = .ok (.ifCond .eq 11, 3) := by decide +kernel
theorem dX5_part_8 : decode cX5_part 8 = .ok (.iload_n 2, 1) := by decide +kernel
theorem dX5_part_9 : decode cX5_part 9 = .ok (.iconst 4, 1) := by decide +kernel
theorem dX5_part_10 : decode cX5_part 10 = .ok (.invokestatic 51, 3) := by decide +kernel
theorem dX5_part_13 : decode cX5_part 13 = .ok (.ifCond .ne 6, 3) := by decide +kernel
theorem dX5_part_16 : decode cX5_part 16 = .ok (.bipush (-2), 2) := by decide +kernel
theorem dX5_part_18 : decode cX5_part 18 = .ok (.ireturn, 1) := by decide +kernel
theorem dX5_part_19 : decode cX5_part 19 = .ok (.aload_n 0, 1) := by decide +kernel
theorem dX5_part_20 : decode cX5_part 20 = .ok (.getfield 21, 3) := by decide +kernel
theorem dX5_part_23 : decode cX5_part 23 = .ok (.aload_n 0, 1) := by decide +kernel
theorem dX5_part_24 : decode cX5_part 24 = .ok (.iload_n 1, 1) := by decide +kernel
theorem dX5_part_25 : decode cX5_part 25 = .ok (.invokevirtual 35, 3) := by decide +kernel
theorem dX5_part_28 : decode cX5_part 28 = .ok (.iload_n 2, 1) := by decide +kernel
theorem dX5_part_29 : decode cX5_part 29 = .ok (.iadd, 1) := by decide +kernel
theorem dX5_part_30 : decode cX5_part 30 = .ok (.bipush (-2), 2) := by decide +kernel
theorem dX5_part_32 : decode cX5_part 32 = .ok (.invokestatic 55, 3) := by decide +kernel
theorem dX5_part_35 : decode cX5_part 35 = .ok (.ireturn, 1) := by decide +kernel
theorem dX5_setPart_0 : decode cX5_setPart 0 = .ok (.aload_n 0, 1) := by decide +kernel
theorem dX5_setPart_1 : decode cX5_setPart 1 = .ok (.iload_n 1, 1) := by decide +kernel
theorem dX5_setPart_2 : decode cX5_setPart 2 = .ok (.invokevirtual 47, 3) := by decide +kernel
theorem dX5_setPart_5 : decode cX5_setPart 5 = .ok (.ifCond .eq 26, 3) := by decide +kernel
theorem dX5_setPart_8 : decode cX5_setPart 8 = .ok (.iload_n 2, 1) := by decide +kernel
theorem dX5_setPart_9 : decode cX5_setPart 9 = .ok (.iconst 4, 1) := by decide +kernel
theorem dX5_setPart_10 : decode cX5_setPart 10 = .ok (.invokestatic 51, 3) := by decide +kernel
theorem dX5_setPart_13 : decode cX5_setPart 13 = .ok (.ifCond .eq 18, 3) := by decide +kernel
theorem dX5_setPart_16 : decode cX5_setPart 16 = .ok (.aload_n 0, 1) := by decide +kernel
theorem dX5_setPart_17 : decode cX5_setPart 17 = .ok (.getfield 21, 3) := by decide +kernel
theorem dX5_setPart_20 : decode cX5_setPart 20 = .ok (.aload_n 0, 1) := by decide +kernel
theorem dX5_setPart_21 : decode cX5_setPart 21 = .ok (.iload_n 1, 1) := by decide +kernel
theorem dX5_setPart_22 : decode cX5_setPart 22 = .ok (.invokevirtual 35, 3) := by decide +kernel
theorem dX5_setPart_25 : decode cX5_setPart 25 = .ok (.iload_n 2, 1) := by decide +kernel
theorem dX5_setPart_26 : decode cX5_setPart 26 = .ok (.iadd, 1) := by decide +kernel
theorem dX5_setPart_27 : decode cX5_setPart 27 = .ok (.iload_n 3, 1) := by decide +kernel
theorem dX5_setPart_28 : decode cX5_setPart 28 = .ok (.invokestatic 39, 3) := by decide +kernel
theorem dX5_setPart_31 : decode cX5_setPart 31 = .ok (.return_, 1) := by decide +kernel
theorem dX5_placeOf_0 : decode cX5_placeOf 0 = .ok (.aload_n 0, 1) := by decide +kernel
theorem dX5_placeOf_1 : decode cX5_placeOf 1 = .ok (.getfield 15, 3) := by decide +kernel
theorem dX5_placeOf_4 : decode cX5_placeOf 4 = .ok (.iconst 1, 1) := by decide +kernel
theorem dX5_placeOf_5 : decode cX5_placeOf 5 = .ok (.if_icmp .ge 7, 3) := by decide +kernel
theorem dX5_placeOf_8 : decode cX5_placeOf 8 = .ok (.iconst 0, 1) := by decide +kernel
theorem dX5_placeOf_9 : decode cX5_placeOf 9 = .ok (.goto 13, 3) := by decide +kernel
theorem dX5_placeOf_12 : decode cX5_placeOf 12 = .ok (.iload_n 1, 1) := by decide +kernel
theorem dX5_placeOf_13 : decode cX5_placeOf 13 = .ok (.aload_n 0, 1) := by decide +kernel
theorem dX5_placeOf_14 : decode cX5_placeOf 14 = .ok (.getfield 15, 3) := by decide +kernel
theorem dX5_placeOf_17 : decode cX5_placeOf 17 = .ok (.invokestatic 59, 3) := by decide +kernel
theorem dX5_placeOf_20 : decode cX5_placeOf 20 = .ok (.iconst 4, 1) := by decide +kernel
theorem dX5_placeOf_21 : decode cX5_placeOf 21 = .ok (.imul, 1) := by decide +kernel
theorem dX5_placeOf_22 : decode cX5_placeOf 22 = .ok (.ireturn, 1) := by decide +kernel
theorem dX6_init_0 : decode cX6_init 0 = .ok (.aload_n 0, 1) := by decide +kernel
theorem dX6_init_1 : decode cX6_init 1 = .ok (.invokespecial 3, 3) := by decide +kernel
theorem dX6_init_4 : decode cX6_init 4 = .ok (.aload_n 0, 1) := by decide +kernel
theorem dX6_init_5 : decode cX6_init 5 = .ok (.new 9, 3) := by decide +kernel
theorem dX6_init_8 : decode cX6_init 8 = .ok (.dup, 1) := by decide +kernel
theorem dX6_init_9 : decode cX6_init 9 = .ok (.sipush 2048, 3) := by decide +kernel
theorem dX6_init_12 : decode cX6_init 12 = .ok (.invokespecial 11, 3) := by decide +kernel
theorem dX6_init_15 : decode cX6_init 15 = .ok (.putfield 14, 3) := by decide +kernel
theorem dX6_init_18 : decode cX6_init 18 = .ok (.return_, 1) := by decide +kernel
theorem dX6_writeView_0 : decode cX6_writeView 0 = .ok (.aload_n 0, 1) := by decide +kernel
theorem dX6_writeView_1 : decode cX6_writeView 1 = .ok (.getfield 14, 3) := by decide +kernel
theorem dX6_writeView_4 : decode cX6_writeView 4 = .ok (.iconst 0, 1) := by decide +kernel
theorem dX6_writeView_5 : decode cX6_writeView 5 = .ok (.invokevirtual 20, 3) := by decide +kernel
theorem dX6_writeView_8 : decode cX6_writeView 8 = .ok (.iconst 0, 1) := by decide +kernel
theorem dX6_writeView_9 : decode cX6_writeView 9 = .ok (.istore_n 3, 1) := by decide +kernel
theorem dX6_writeView_10 : decode cX6_writeView 10 = .ok (.iload_n 3, 1) := by decide +kernel
theorem dX6_writeView_11 : decode cX6_writeView 11 = .ok (.aload_n 1, 1) := by decide +kernel
theorem dX6_writeView_12 : decode cX6_writeView 12 = .ok (.invokevirtual 23, 3) := by decide +kernel
theorem dX6_writeView_15 : decode cX6_writeView 15 = .ok (.if_icmp .ge 69, 3) := by decide +kernel
theorem dX6_writeView_18 : decode cX6_writeView 18 = .ok (.aload_n 0, 1) := by decide +kernel
theorem dX6_writeView_19 : decode cX6_writeView 19 = .ok (.getfield 14, 3) := by decide +kernel
theorem dX6_writeView_22 : decode cX6_writeView 22 = .ok (.aload_n 1, 1) := by decide +kernel
theorem dX6_writeView_23 : decode cX6_writeView 23 = .ok (.iload_n 3, 1) := by decide +kernel
theorem dX6_writeView_24 : decode cX6_writeView 24 = .ok (.invokevirtual 29, 3) := by decide +kernel
theorem dX6_writeView_27 : decode cX6_writeView 27 = .ok (.invokevirtual 33, 3) := by decide +kernel
theorem dX6_writeView_30 : decode cX6_writeView 30 = .ok (.aload_n 0, 1) := by decide +kernel
theorem dX6_writeView_31 : decode cX6_writeView 31 = .ok (.getfield 14, 3) := by decide +kernel
theorem dX6_writeView_34 : decode cX6_writeView 34 = .ok (.bipush 32, 2) := by decide +kernel
theorem dX6_writeView_36 : decode cX6_writeView 36 = .ok (.invokevirtual 36, 3) := by decide +kernel
theorem dX6_writeView_39 : decode cX6_writeView 39 = .ok (.aload_n 0, 1) := by decide +kernel
theorem dX6_writeView_40 : decode cX6_writeView 40 = .ok (.aload_n 1, 1) := by decide +kernel
theorem dX6_writeView_41 : decode cX6_writeView 41 = .ok (.aload_n 2, 1) := by decide +kernel
theorem dX6_writeView_42 : decode cX6_writeView 42 = .ok (.getfield 39, 3) := by decide +kernel
theorem dX6_writeView_45 : decode cX6_writeView 45 = .ok (.iload_n 3, 1) := by decide +kernel
theorem dX6_writeView_46 : decode cX6_writeView 46 = .ok (.invokevirtual 45, 3) := by decide +kernel
theorem dX6_writeView_49 : decode cX6_writeView 49 = .ok (.aload_n 2, 1) := by decide +kernel
theorem dX6_writeView_50 : decode cX6_writeView 50 = .ok (.getfield 49, 3) := by decide +kernel
theorem dX6_writeView_53 : decode cX6_writeView 53 = .ok (.iload_n 3, 1) := by decide +kernel
theorem dX6_writeView_54 : decode cX6_writeView 54 = .ok (.invokevirtual 53, 3) := by decide +kernel
theorem dX6_writeView_57 : decode cX6_writeView 57 = .ok (.ifCond .eq 12, 3) := by decide +kernel
theorem dX6_writeView_60 : decode cX6_writeView 60 = .ok (.aload_n 0, 1) := by decide +kernel
theorem dX6_writeView_61 : decode cX6_writeView 61 = .ok (.getfield 14, 3) := by decide +kernel
theorem dX6_writeView_64 : decode cX6_writeView 64 = .ok (.ldc 59, 2) := by decide +kernel
theorem dX6_writeView_66 : decode cX6_writeView 66 = .ok (.invokevirtual 61, 3) := by decide +kernel
theorem dX6_writeView_69 : decode cX6_writeView 69 = .ok (.aload_n 0, 1) := by decide +kernel
theorem dX6_writeView_70 : decode cX6_writeView 70 = .ok (.getfield 14, 3) := by decide +kernel
theorem dX6_writeView_73 : decode cX6_writeView 73 = .ok (.bipush 10, 2) := by decide +kernel
theorem dX6_writeView_75 : decode cX6_writeView 75 = .ok (.invokevirtual 36, 3) := by decide +kernel
theorem dX6_writeView_78 : decode cX6_writeView 78 = .ok (.iinc 3 1, 3) := by decide +kernel
theorem dX6_writeView_81 : decode cX6_writeView 81 = .ok (.goto (-71), 3) := by decide +kernel
theorem dX6_writeView_84 : decode cX6_writeView 84 = .ok (.aload_n 0, 1) := by decide +kernel
theorem dX6_writeView_85 : decode cX6_writeView 85 = .ok (.getfield 14, 3) := by decide +kernel
theorem dX6_writeView_88 : decode cX6_writeView 88 = .ok (.areturn, 1) := by decide +kernel
theorem dX6_writeStick_0 : decode cX6_writeStick 0 = .ok (.aload_n 2, 1) := by decide +kernel
theorem dX6_writeStick_1 : decode cX6_writeStick 1 = .ok (.iload_n 3, 1) := by decide +kernel
theorem dX6_writeStick_2 : decode cX6_writeStick 2 = .ok (.invokevirtual 65, 3) := by decide +kernel
theorem dX6_writeStick_5 : decode cX6_writeStick 5 = .ok (.istore 4, 2) := by decide +kernel
theorem dX6_writeStick_7 : decode cX6_writeStick 7 = .ok (.aload_n 2, 1) := by decide +kernel
theorem dX6_writeStick_8 : decode cX6_writeStick 8 = .ok (.iload_n 3, 1) := by decide +kernel
theorem dX6_writeStick_9 : decode cX6_writeStick 9 = .ok (.invokevirtual 70, 3) := by decide +kernel
theorem dX6_writeStick_12 : decode cX6_writeStick 12 = .ok (.istore 5, 2) := by decide +kernel
theorem dX6_writeStick_14 : decode cX6_writeStick 14 = .ok (.aload_n 0, 1) := by decide +kernel
theorem dX6_writeStick_15 : decode cX6_writeStick 15 = .ok (.getfield 14, 3) := by decide +kernel
theorem dX6_writeStick_18 : decode cX6_writeStick 18 = .ok (.aload_n 2, 1) := by decide +kernel
theorem dX6_writeStick_19 : decode cX6_writeStick 19 = .ok (.iload_n 3, 1) := by decide +kernel
theorem dX6_writeStick_20 : decode cX6_writeStick 20 = .ok (.invokevirtual 73, 3) := by decide +kernel
theorem dX6_writeStick_23 : decode cX6_writeStick 23 = .ok (.invokestatic 76, 3) := by decide +kernel
theorem dX6_writeStick_26 : decode cX6_writeStick 26 = .ok (.invokevirtual 61, 3) := by decide +kernel
theorem dX6_writeStick_29 : decode cX6_writeStick 29 = .ok (.iload 4, 2) := by decide +kernel
theorem dX6_writeStick_31 : decode cX6_writeStick 31 = .ok (.bipush (-2), 2) := by decide +kernel
theorem dX6_writeStick_33 : decode cX6_writeStick 33 = .ok (.if_icmp .eq 25, 3) := by decide +kernel
theorem dX6_writeStick_36 : decode cX6_writeStick 36 = .ok (.aload_n 0, 1) := by decide +kernel
theorem dX6_writeStick_37 : decode cX6_writeStick 37 = .ok (.getfield 14, 3) := by decide +kernel
theorem dX6_writeStick_40 : decode cX6_writeStick 40 = .ok (.bipush 32, 2) := by decide +kernel
theorem dX6_writeStick_42 : decode cX6_writeStick 42 = .ok (.invokevirtual 36, 3) := by decide +kernel
theorem dX6_writeStick_45 : decode cX6_writeStick 45 = .ok (.aload_n 0, 1) := by decide +kernel
theorem dX6_writeStick_46 : decode cX6_writeStick 46 = .ok (.getfield 14, 3) := by decide +kernel
theorem dX6_writeStick_49 : decode cX6_writeStick 49 = .ok (.aload_n 1, 1) := by decide +kernel
theorem dX6_writeStick_50 : decode cX6_writeStick 50 = .ok (.iload 4, 2) := by decide +kernel
theorem dX6_writeStick_52 : decode cX6_writeStick 52 = .ok (.invokevirtual 29, 3) := by decide +kernel
theorem dX6_writeStick_55 : decode cX6_writeStick 55 = .ok (.invokevirtual 33, 3) := by decide +kernel
theorem dX6_writeStick_58 : decode cX6_writeStick 58 = .ok (.iload 5, 2) := by decide +kernel
theorem dX6_writeStick_60 : decode cX6_writeStick 60 = .ok (.bipush (-2), 2) := by decide +kernel
theorem dX6_writeStick_62 : decode cX6_writeStick 62 = .ok (.if_icmp .eq 9, 3) := by decide +kernel
theorem dX6_writeStick_65 : decode cX6_writeStick 65 = .ok (.aload_n 0, 1) := by decide +kernel
theorem dX6_writeStick_66 : decode cX6_writeStick 66 = .ok (.iload 5, 2) := by decide +kernel
theorem dX6_writeStick_68 : decode cX6_writeStick 68 = .ok (.invokevirtual 80, 3) := by decide +kernel
theorem dX6_writeStick_71 : decode cX6_writeStick 71 = .ok (.return_, 1) := by decide +kernel
theorem dX6_placeWord_0 : decode cX6_placeWord 0 = .ok (.iload_n 0, 1) := by decide +kernel
theorem dX6_placeWord_1 : decode cX6_placeWord 1 = .ok (.tableswitch 36 0 2 #[27, 30, 33], 27) := by decide +kernel
theorem dX6_placeWord_28 : decode cX6_placeWord 28 = .ok (.ldc 83, 2) := by decide +kernel
theorem dX6_placeWord_30 : decode cX6_placeWord 30 = .ok (.areturn, 1) := by decide +kernel
theorem dX6_placeWord_31 : decode cX6_placeWord 31 = .ok (.ldc 85, 2) := by decide +kernel
theorem dX6_placeWord_33 : decode cX6_placeWord 33 = .ok (.areturn, 1) := by decide +kernel
theorem dX6_placeWord_34 : decode cX6_placeWord 34 = .ok (.ldc 87, 2) := by decide +kernel
theorem dX6_placeWord_36 : decode cX6_placeWord 36 = .ok (.areturn, 1) := by decide +kernel
theorem dX6_placeWord_37 : decode cX6_placeWord 37 = .ok (.ldc 89, 2) := by decide +kernel
theorem dX6_placeWord_39 : decode cX6_placeWord 39 = .ok (.areturn, 1) := by decide +kernel
theorem dX6_writeStory_0 : decode cX6_writeStory 0 = .ok (.aload_n 0, 1) := by decide +kernel
theorem dX6_writeStory_1 : decode cX6_writeStory 1 = .ok (.getfield 14, 3) := by decide +kernel
theorem dX6_writeStory_4 : decode cX6_writeStory 4 = .ok (.iconst 0, 1) := by decide +kernel
theorem dX6_writeStory_5 : decode cX6_writeStory 5 = .ok (.invokevirtual 20, 3) := by decide +kernel
theorem dX6_writeStory_8 : decode cX6_writeStory 8 = .ok (.iconst 0, 1) := by decide +kernel
theorem dX6_writeStory_9 : decode cX6_writeStory 9 = .ok (.istore_n 2, 1) := by decide +kernel
theorem dX6_writeStory_10 : decode cX6_writeStory 10 = .ok (.iload_n 2, 1) := by decide +kernel
theorem dX6_writeStory_11 : decode cX6_writeStory 11 = .ok (.aload_n 1, 1) := by decide +kernel
theorem dX6_writeStory_12 : decode cX6_writeStory 12 = .ok (.invokevirtual 91, 3) := by decide +kernel
theorem dX6_writeStory_15 : decode cX6_writeStory 15 = .ok (.if_icmp .ge 83, 3) := by decide +kernel
theorem dX6_writeStory_18 : decode cX6_writeStory 18 = .ok (.aload_n 1, 1) := by decide +kernel
theorem dX6_writeStory_19 : decode cX6_writeStory 19 = .ok (.invokevirtual 96, 3) := by decide +kernel
theorem dX6_writeStory_22 : decode cX6_writeStory 22 = .ok (.iload_n 2, 1) := by decide +kernel
theorem dX6_writeStory_23 : decode cX6_writeStory 23 = .ok (.iadd, 1) := by decide +kernel
theorem dX6_writeStory_24 : decode cX6_writeStory 24 = .ok (.istore_n 3, 1) := by decide +kernel
theorem dX6_writeStory_25 : decode cX6_writeStory 25 = .ok (.aload_n 0, 1) := by decide +kernel
theorem dX6_writeStory_26 : decode cX6_writeStory 26 = .ok (.getfield 14, 3) := by decide +kernel
theorem dX6_writeStory_29 : decode cX6_writeStory 29 = .ok (.aload_n 1, 1) := by decide +kernel
theorem dX6_writeStory_30 : decode cX6_writeStory 30 = .ok (.iload_n 3, 1) := by decide +kernel
theorem dX6_writeStory_31 : decode cX6_writeStory 31 = .ok (.iconst 0, 1) := by decide +kernel
theorem dX6_writeStory_32 : decode cX6_writeStory 32 = .ok (.invokevirtual 99, 3) := by decide +kernel
theorem dX6_writeStory_35 : decode cX6_writeStory 35 = .ok (.invokevirtual 103, 3) := by decide +kernel
theorem dX6_writeStory_38 : decode cX6_writeStory 38 = .ok (.aload_n 0, 1) := by decide +kernel
theorem dX6_writeStory_39 : decode cX6_writeStory 39 = .ok (.getfield 14, 3) := by decide +kernel
theorem dX6_writeStory_42 : decode cX6_writeStory 42 = .ok (.bipush 32, 2) := by decide +kernel
theorem dX6_writeStory_44 : decode cX6_writeStory 44 = .ok (.invokevirtual 36, 3) := by decide +kernel
theorem dX6_writeStory_47 : decode cX6_writeStory 47 = .ok (.aload_n 0, 1) := by decide +kernel
theorem dX6_writeStory_48 : decode cX6_writeStory 48 = .ok (.getfield 14, 3) := by decide +kernel
theorem dX6_writeStory_51 : decode cX6_writeStory 51 = .ok (.aload_n 1, 1) := by decide +kernel
theorem dX6_writeStory_52 : decode cX6_writeStory 52 = .ok (.iload_n 3, 1) := by decide +kernel
theorem dX6_writeStory_53 : decode cX6_writeStory 53 = .ok (.iconst 1, 1) := by decide +kernel
theorem dX6_writeStory_54 : decode cX6_writeStory 54 = .ok (.invokevirtual 99, 3) := by decide +kernel
theorem dX6_writeStory_57 : decode cX6_writeStory 57 = .ok (.invokestatic 106, 3) := by decide +kernel
theorem dX6_writeStory_60 : decode cX6_writeStory 60 = .ok (.invokevirtual 61, 3) := by decide +kernel
theorem dX6_writeStory_63 : decode cX6_writeStory 63 = .ok (.aload_n 0, 1) := by decide +kernel
theorem dX6_writeStory_64 : decode cX6_writeStory 64 = .ok (.aload_n 1, 1) := by decide +kernel
theorem dX6_writeStory_65 : decode cX6_writeStory 65 = .ok (.iload_n 3, 1) := by decide +kernel
theorem dX6_writeStory_66 : decode cX6_writeStory 66 = .ok (.iconst 2, 1) := by decide +kernel
theorem dX6_writeStory_67 : decode cX6_writeStory 67 = .ok (.invokevirtual 99, 3) := by decide +kernel
theorem dX6_writeStory_70 : decode cX6_writeStory 70 = .ok (.invokevirtual 80, 3) := by decide +kernel
theorem dX6_writeStory_73 : decode cX6_writeStory 73 = .ok (.aload_n 0, 1) := by decide +kernel
theorem dX6_writeStory_74 : decode cX6_writeStory 74 = .ok (.aload_n 1, 1) := by decide +kernel
theorem dX6_writeStory_75 : decode cX6_writeStory 75 = .ok (.iload_n 3, 1) := by decide +kernel
theorem dX6_writeStory_76 : decode cX6_writeStory 76 = .ok (.iconst 3, 1) := by decide +kernel
theorem dX6_writeStory_77 : decode cX6_writeStory 77 = .ok (.invokevirtual 99, 3) := by decide +kernel
theorem dX6_writeStory_80 : decode cX6_writeStory 80 = .ok (.invokevirtual 80, 3) := by decide +kernel
theorem dX6_writeStory_83 : decode cX6_writeStory 83 = .ok (.aload_n 0, 1) := by decide +kernel
theorem dX6_writeStory_84 : decode cX6_writeStory 84 = .ok (.getfield 14, 3) := by decide +kernel
theorem dX6_writeStory_87 : decode cX6_writeStory 87 = .ok (.bipush 10, 2) := by decide +kernel
theorem dX6_writeStory_89 : decode cX6_writeStory 89 = .ok (.invokevirtual 36, 3) := by decide +kernel
theorem dX6_writeStory_92 : decode cX6_writeStory 92 = .ok (.iinc 2 1, 3) := by decide +kernel
theorem dX6_writeStory_95 : decode cX6_writeStory 95 = .ok (.goto (-85), 3) := by decide +kernel
theorem dX6_writeStory_98 : decode cX6_writeStory 98 = .ok (.aload_n 0, 1) := by decide +kernel
theorem dX6_writeStory_99 : decode cX6_writeStory 99 = .ok (.getfield 14, 3) := by decide +kernel
theorem dX6_writeStory_102 : decode cX6_writeStory 102 = .ok (.areturn, 1) := by decide +kernel
theorem dX6_kindWord_0 : decode cX6_kindWord 0 = .ok (.iload_n 0, 1) := by decide +kernel
theorem dX6_kindWord_1 : decode cX6_kindWord 1 = .ok (.tableswitch 64 0 6 #[43, 46, 49, 52, 55, 58, 61], 43) := by decide +kernel
theorem dX6_kindWord_44 : decode cX6_kindWord 44 = .ok (.ldc 109, 2) := by decide +kernel
theorem dX6_kindWord_46 : decode cX6_kindWord 46 = .ok (.areturn, 1) := by decide +kernel
theorem dX6_kindWord_47 : decode cX6_kindWord 47 = .ok (.ldc 111, 2) := by decide +kernel
theorem dX6_kindWord_49 : decode cX6_kindWord 49 = .ok (.areturn, 1) := by decide +kernel
theorem dX6_kindWord_50 : decode cX6_kindWord 50 = .ok (.ldc 113, 2) := by decide +kernel
theorem dX6_kindWord_52 : decode cX6_kindWord 52 = .ok (.areturn, 1) := by decide +kernel
theorem dX6_kindWord_53 : decode cX6_kindWord 53 = .ok (.ldc 87, 2) := by decide +kernel
theorem dX6_kindWord_55 : decode cX6_kindWord 55 = .ok (.areturn, 1) := by decide +kernel
theorem dX6_kindWord_56 : decode cX6_kindWord 56 = .ok (.ldc 89, 2) := by decide +kernel
theorem dX6_kindWord_58 : decode cX6_kindWord 58 = .ok (.areturn, 1) := by decide +kernel
theorem dX6_kindWord_59 : decode cX6_kindWord 59 = .ok (.ldc 115, 2) := by decide +kernel
theorem dX6_kindWord_61 : decode cX6_kindWord 61 = .ok (.areturn, 1) := by decide +kernel
theorem dX6_kindWord_62 : decode cX6_kindWord 62 = .ok (.ldc 117, 2) := by decide +kernel
theorem dX6_kindWord_64 : decode cX6_kindWord 64 = .ok (.areturn, 1) := by decide +kernel
theorem dX6_kindWord_65 : decode cX6_kindWord 65 = .ok (.ldc 119, 2) := by decide +kernel
theorem dX6_kindWord_67 : decode cX6_kindWord 67 = .ok (.areturn, 1) := by decide +kernel
theorem dX6_writeSetup_0 : decode cX6_writeSetup 0 = .ok (.aload_n 0, 1) := by decide +kernel
theorem dX6_writeSetup_1 : decode cX6_writeSetup 1 = .ok (.getfield 14, 3) := by decide +kernel
theorem dX6_writeSetup_4 : decode cX6_writeSetup 4 = .ok (.iconst 0, 1) := by decide +kernel
theorem dX6_writeSetup_5 : decode cX6_writeSetup 5 = .ok (.invokevirtual 20, 3) := by decide +kernel
theorem dX6_writeSetup_8 : decode cX6_writeSetup 8 = .ok (.aload_n 0, 1) := by decide +kernel
theorem dX6_writeSetup_9 : decode cX6_writeSetup 9 = .ok (.aload_n 1, 1) := by decide +kernel
theorem dX6_writeSetup_10 : decode cX6_writeSetup 10 = .ok (.invokevirtual 121, 3) := by decide +kernel
theorem dX6_writeSetup_13 : decode cX6_writeSetup 13 = .ok (.iconst 0, 1) := by decide +kernel
theorem dX6_writeSetup_14 : decode cX6_writeSetup 14 = .ok (.istore_n 3, 1) := by decide +kernel
theorem dX6_writeSetup_15 : decode cX6_writeSetup 15 = .ok (.iload_n 3, 1) := by decide +kernel
theorem dX6_writeSetup_16 : decode cX6_writeSetup 16 = .ok (.aload_n 1, 1) := by decide +kernel
theorem dX6_writeSetup_17 : decode cX6_writeSetup 17 = .ok (.invokevirtual 125, 3) := by decide +kernel
theorem dX6_writeSetup_20 : decode cX6_writeSetup 20 = .ok (.if_icmp .ge 39, 3) := by decide +kernel
theorem dX6_writeSetup_23 : decode cX6_writeSetup 23 = .ok (.aload_n 0, 1) := by decide +kernel
theorem dX6_writeSetup_24 : decode cX6_writeSetup 24 = .ok (.getfield 14, 3) := by decide +kernel
theorem dX6_writeSetup_27 : decode cX6_writeSetup 27 = .ok (.ldc 128, 2) := by decide +kernel
theorem dX6_writeSetup_29 : decode cX6_writeSetup 29 = .ok (.invokevirtual 61, 3) := by decide +kernel
theorem dX6_writeSetup_32 : decode cX6_writeSetup 32 = .ok (.aload_n 0, 1) := by decide +kernel
theorem dX6_writeSetup_33 : decode cX6_writeSetup 33 = .ok (.getfield 14, 3) := by decide +kernel
theorem dX6_writeSetup_36 : decode cX6_writeSetup 36 = .ok (.aload_n 1, 1) := by decide +kernel
theorem dX6_writeSetup_37 : decode cX6_writeSetup 37 = .ok (.iload_n 3, 1) := by decide +kernel
theorem dX6_writeSetup_38 : decode cX6_writeSetup 38 = .ok (.invokevirtual 130, 3) := by decide +kernel
theorem dX6_writeSetup_41 : decode cX6_writeSetup 41 = .ok (.invokevirtual 33, 3) := by decide +kernel
theorem dX6_writeSetup_44 : decode cX6_writeSetup 44 = .ok (.aload_n 0, 1) := by decide +kernel
theorem dX6_writeSetup_45 : decode cX6_writeSetup 45 = .ok (.getfield 14, 3) := by decide +kernel
theorem dX6_writeSetup_48 : decode cX6_writeSetup 48 = .ok (.bipush 59, 2) := by decide +kernel
theorem dX6_writeSetup_50 : decode cX6_writeSetup 50 = .ok (.invokevirtual 36, 3) := by decide +kernel
theorem dX6_writeSetup_53 : decode cX6_writeSetup 53 = .ok (.iinc 3 1, 3) := by decide +kernel
theorem dX6_writeSetup_56 : decode cX6_writeSetup 56 = .ok (.goto (-41), 3) := by decide +kernel
theorem dX6_writeSetup_59 : decode cX6_writeSetup 59 = .ok (.iconst 0, 1) := by decide +kernel
theorem dX6_writeSetup_60 : decode cX6_writeSetup 60 = .ok (.istore_n 3, 1) := by decide +kernel
theorem dX6_writeSetup_61 : decode cX6_writeSetup 61 = .ok (.iload_n 3, 1) := by decide +kernel
theorem dX6_writeSetup_62 : decode cX6_writeSetup 62 = .ok (.aload_n 1, 1) := by decide +kernel
theorem dX6_writeSetup_63 : decode cX6_writeSetup 63 = .ok (.invokevirtual 23, 3) := by decide +kernel
theorem dX6_writeSetup_66 : decode cX6_writeSetup 66 = .ok (.if_icmp .ge 16, 3) := by decide +kernel
theorem dX6_writeSetup_69 : decode cX6_writeSetup 69 = .ok (.aload_n 0, 1) := by decide +kernel
theorem dX6_writeSetup_70 : decode cX6_writeSetup 70 = .ok (.aload_n 1, 1) := by decide +kernel
theorem dX6_writeSetup_71 : decode cX6_writeSetup 71 = .ok (.aload_n 2, 1) := by decide +kernel
theorem dX6_writeSetup_72 : decode cX6_writeSetup 72 = .ok (.iload_n 3, 1) := by decide +kernel
theorem dX6_writeSetup_73 : decode cX6_writeSetup 73 = .ok (.invokevirtual 133, 3) := by decide +kernel
theorem dX6_writeSetup_76 : decode cX6_writeSetup 76 = .ok (.iinc 3 1, 3) := by decide +kernel
theorem dX6_writeSetup_79 : decode cX6_writeSetup 79 = .ok (.goto (-18), 3) := by decide +kernel
theorem dX6_writeSetup_82 : decode cX6_writeSetup 82 = .ok (.aload_n 0, 1) := by decide +kernel
theorem dX6_writeSetup_83 : decode cX6_writeSetup 83 = .ok (.getfield 14, 3) := by decide +kernel
theorem dX6_writeSetup_86 : decode cX6_writeSetup 86 = .ok (.areturn, 1) := by decide +kernel
theorem dX6_writeNumbers_0 : decode cX6_writeNumbers 0 = .ok (.aload_n 0, 1) := by decide +kernel
theorem dX6_writeNumbers_1 : decode cX6_writeNumbers 1 = .ok (.getfield 14, 3) := by decide +kernel
theorem dX6_writeNumbers_4 : decode cX6_writeNumbers 4 = .ok (.ldc 137, 2) := by decide +kernel
theorem dX6_writeNumbers_6 : decode cX6_writeNumbers 6 = .ok (.invokevirtual 61, 3) := by decide +kernel
theorem dX6_writeNumbers_9 : decode cX6_writeNumbers 9 = .ok (.aload_n 0, 1) := by decide +kernel
theorem dX6_writeNumbers_10 : decode cX6_writeNumbers 10 = .ok (.aload_n 1, 1) := by decide +kernel
theorem dX6_writeNumbers_11 : decode cX6_writeNumbers 11 = .ok (.iconst 0, 1) := by decide +kernel
theorem dX6_writeNumbers_12 : decode cX6_writeNumbers 12 = .ok (.invokevirtual 139, 3) := by decide +kernel
theorem dX6_writeNumbers_15 : decode cX6_writeNumbers 15 = .ok (.invokevirtual 80, 3) := by decide +kernel
theorem dX6_writeNumbers_18 : decode cX6_writeNumbers 18 = .ok (.aload_n 0, 1) := by decide +kernel
theorem dX6_writeNumbers_19 : decode cX6_writeNumbers 19 = .ok (.getfield 14, 3) := by decide +kernel
theorem dX6_writeNumbers_22 : decode cX6_writeNumbers 22 = .ok (.ldc 142, 2) := by decide +kernel
theorem dX6_writeNumbers_24 : decode cX6_writeNumbers 24 = .ok (.invokevirtual 61, 3) := by decide +kernel
theorem dX6_writeNumbers_27 : decode cX6_writeNumbers 27 = .ok (.iconst 0, 1) := by decide +kernel
theorem dX6_writeNumbers_28 : decode cX6_writeNumbers 28 = .ok (.istore_n 2, 1) := by decide +kernel
theorem dX6_writeNumbers_29 : decode cX6_writeNumbers 29 = .ok (.iload_n 2, 1) := by decide +kernel
theorem dX6_writeNumbers_30 : decode cX6_writeNumbers 30 = .ok (.iconst 4, 1) := by decide +kernel
theorem dX6_writeNumbers_31 : decode cX6_writeNumbers 31 = .ok (.if_icmp .ge 20, 3) := by decide +kernel
theorem dX6_writeNumbers_34 : decode cX6_writeNumbers 34 = .ok (.aload_n 0, 1) := by decide +kernel
theorem dX6_writeNumbers_35 : decode cX6_writeNumbers 35 = .ok (.aload_n 1, 1) := by decide +kernel
theorem dX6_writeNumbers_36 : decode cX6_writeNumbers 36 = .ok (.iconst 1, 1) := by decide +kernel
theorem dX6_writeNumbers_37 : decode cX6_writeNumbers 37 = .ok (.iload_n 2, 1) := by decide +kernel
theorem dX6_writeNumbers_38 : decode cX6_writeNumbers 38 = .ok (.iadd, 1) := by decide +kernel
theorem dX6_writeNumbers_39 : decode cX6_writeNumbers 39 = .ok (.invokevirtual 139, 3) := by decide +kernel
theorem dX6_writeNumbers_42 : decode cX6_writeNumbers 42 = .ok (.invokevirtual 80, 3) := by decide +kernel
theorem dX6_writeNumbers_45 : decode cX6_writeNumbers 45 = .ok (.iinc 2 1, 3) := by decide +kernel
theorem dX6_writeNumbers_48 : decode cX6_writeNumbers 48 = .ok (.goto (-19), 3) := by decide +kernel
theorem dX6_writeNumbers_51 : decode cX6_writeNumbers 51 = .ok (.aload_n 0, 1) := by decide +kernel
theorem dX6_writeNumbers_52 : decode cX6_writeNumbers 52 = .ok (.getfield 14, 3) := by decide +kernel
theorem dX6_writeNumbers_55 : decode cX6_writeNumbers 55 = .ok (.ldc 144, 2) := by decide +kernel
theorem dX6_writeNumbers_57 : decode cX6_writeNumbers 57 = .ok (.invokevirtual 61, 3) := by decide +kernel
theorem dX6_writeNumbers_60 : decode cX6_writeNumbers 60 = .ok (.aload_n 0, 1) := by decide +kernel
theorem dX6_writeNumbers_61 : decode cX6_writeNumbers 61 = .ok (.aload_n 1, 1) := by decide +kernel
theorem dX6_writeNumbers_62 : decode cX6_writeNumbers 62 = .ok (.iconst 5, 1) := by decide +kernel
theorem dX6_writeNumbers_63 : decode cX6_writeNumbers 63 = .ok (.invokevirtual 139, 3) := by decide +kernel
theorem dX6_writeNumbers_66 : decode cX6_writeNumbers 66 = .ok (.invokevirtual 80, 3) := by decide +kernel
theorem dX6_writeNumbers_69 : decode cX6_writeNumbers 69 = .ok (.aload_n 0, 1) := by decide +kernel
theorem dX6_writeNumbers_70 : decode cX6_writeNumbers 70 = .ok (.getfield 14, 3) := by decide +kernel
theorem dX6_writeNumbers_73 : decode cX6_writeNumbers 73 = .ok (.ldc 146, 2) := by decide +kernel
theorem dX6_writeNumbers_75 : decode cX6_writeNumbers 75 = .ok (.invokevirtual 61, 3) := by decide +kernel
theorem dX6_writeNumbers_78 : decode cX6_writeNumbers 78 = .ok (.aload_n 0, 1) := by decide +kernel
theorem dX6_writeNumbers_79 : decode cX6_writeNumbers 79 = .ok (.aload_n 1, 1) := by decide +kernel
theorem dX6_writeNumbers_80 : decode cX6_writeNumbers 80 = .ok (.bipush 6, 2) := by decide +kernel
theorem dX6_writeNumbers_82 : decode cX6_writeNumbers 82 = .ok (.invokevirtual 139, 3) := by decide +kernel
theorem dX6_writeNumbers_85 : decode cX6_writeNumbers 85 = .ok (.invokevirtual 80, 3) := by decide +kernel
theorem dX6_writeNumbers_88 : decode cX6_writeNumbers 88 = .ok (.aload_n 0, 1) := by decide +kernel
theorem dX6_writeNumbers_89 : decode cX6_writeNumbers 89 = .ok (.getfield 14, 3) := by decide +kernel
theorem dX6_writeNumbers_92 : decode cX6_writeNumbers 92 = .ok (.ldc 148, 2) := by decide +kernel
theorem dX6_writeNumbers_94 : decode cX6_writeNumbers 94 = .ok (.invokevirtual 61, 3) := by decide +kernel
theorem dX6_writeNumbers_97 : decode cX6_writeNumbers 97 = .ok (.aload_n 0, 1) := by decide +kernel
theorem dX6_writeNumbers_98 : decode cX6_writeNumbers 98 = .ok (.aload_n 1, 1) := by decide +kernel
theorem dX6_writeNumbers_99 : decode cX6_writeNumbers 99 = .ok (.bipush 7, 2) := by decide +kernel
theorem dX6_writeNumbers_101 : decode cX6_writeNumbers 101 = .ok (.invokevirtual 139, 3) := by decide +kernel
theorem dX6_writeNumbers_104 : decode cX6_writeNumbers 104 = .ok (.invokevirtual 80, 3) := by decide +kernel
theorem dX6_writeNumbers_107 : decode cX6_writeNumbers 107 = .ok (.aload_n 0, 1) := by decide +kernel
theorem dX6_writeNumbers_108 : decode cX6_writeNumbers 108 = .ok (.getfield 14, 3) := by decide +kernel
theorem dX6_writeNumbers_111 : decode cX6_writeNumbers 111 = .ok (.ldc 150, 2) := by decide +kernel
theorem dX6_writeNumbers_113 : decode cX6_writeNumbers 113 = .ok (.invokevirtual 61, 3) := by decide +kernel
theorem dX6_writeNumbers_116 : decode cX6_writeNumbers 116 = .ok (.aload_n 0, 1) := by decide +kernel
theorem dX6_writeNumbers_117 : decode cX6_writeNumbers 117 = .ok (.aload_n 1, 1) := by decide +kernel
theorem dX6_writeNumbers_118 : decode cX6_writeNumbers 118 = .ok (.bipush 8, 2) := by decide +kernel
theorem dX6_writeNumbers_120 : decode cX6_writeNumbers 120 = .ok (.invokevirtual 139, 3) := by decide +kernel
theorem dX6_writeNumbers_123 : decode cX6_writeNumbers 123 = .ok (.invokevirtual 80, 3) := by decide +kernel
theorem dX6_writeNumbers_126 : decode cX6_writeNumbers 126 = .ok (.aload_n 0, 1) := by decide +kernel
theorem dX6_writeNumbers_127 : decode cX6_writeNumbers 127 = .ok (.getfield 14, 3) := by decide +kernel
theorem dX6_writeNumbers_130 : decode cX6_writeNumbers 130 = .ok (.ldc 152, 2) := by decide +kernel
theorem dX6_writeNumbers_132 : decode cX6_writeNumbers 132 = .ok (.invokevirtual 61, 3) := by decide +kernel
theorem dX6_writeNumbers_135 : decode cX6_writeNumbers 135 = .ok (.aload_n 0, 1) := by decide +kernel
theorem dX6_writeNumbers_136 : decode cX6_writeNumbers 136 = .ok (.aload_n 1, 1) := by decide +kernel
theorem dX6_writeNumbers_137 : decode cX6_writeNumbers 137 = .ok (.bipush 9, 2) := by decide +kernel
theorem dX6_writeNumbers_139 : decode cX6_writeNumbers 139 = .ok (.invokevirtual 139, 3) := by decide +kernel
theorem dX6_writeNumbers_142 : decode cX6_writeNumbers 142 = .ok (.invokevirtual 80, 3) := by decide +kernel
theorem dX6_writeNumbers_145 : decode cX6_writeNumbers 145 = .ok (.aload_n 0, 1) := by decide +kernel
theorem dX6_writeNumbers_146 : decode cX6_writeNumbers 146 = .ok (.getfield 14, 3) := by decide +kernel
theorem dX6_writeNumbers_149 : decode cX6_writeNumbers 149 = .ok (.bipush 59, 2) := by decide +kernel
theorem dX6_writeNumbers_151 : decode cX6_writeNumbers 151 = .ok (.invokevirtual 36, 3) := by decide +kernel
theorem dX6_writeNumbers_154 : decode cX6_writeNumbers 154 = .ok (.return_, 1) := by decide +kernel
theorem dX6_writePerson_0 : decode cX6_writePerson 0 = .ok (.aload_n 2, 1) := by decide +kernel
theorem dX6_writePerson_1 : decode cX6_writePerson 1 = .ok (.iload_n 3, 1) := by decide +kernel
theorem dX6_writePerson_2 : decode cX6_writePerson 2 = .ok (.invokevirtual 154, 3) := by decide +kernel
theorem dX6_writePerson_5 : decode cX6_writePerson 5 = .ok (.istore 4, 2) := by decide +kernel
theorem dX6_writePerson_7 : decode cX6_writePerson 7 = .ok (.aload_n 0, 1) := by decide +kernel
theorem dX6_writePerson_8 : decode cX6_writePerson 8 = .ok (.getfield 14, 3) := by decide +kernel
theorem dX6_writePerson_11 : decode cX6_writePerson 11 = .ok (.ldc 157, 2) := by decide +kernel
theorem dX6_writePerson_13 : decode cX6_writePerson 13 = .ok (.invokevirtual 61, 3) := by decide +kernel
theorem dX6_writePerson_16 : decode cX6_writePerson 16 = .ok (.aload_n 0, 1) := by decide +kernel
theorem dX6_writePerson_17 : decode cX6_writePerson 17 = .ok (.getfield 14, 3) := by decide +kernel
theorem dX6_writePerson_20 : decode cX6_writePerson 20 = .ok (.aload_n 1, 1) := by decide +kernel
theorem dX6_writePerson_21 : decode cX6_writePerson 21 = .ok (.iload_n 3, 1) := by decide +kernel
theorem dX6_writePerson_22 : decode cX6_writePerson 22 = .ok (.invokevirtual 29, 3) := by decide +kernel
theorem dX6_writePerson_25 : decode cX6_writePerson 25 = .ok (.invokevirtual 33, 3) := by decide +kernel
theorem dX6_writePerson_28 : decode cX6_writePerson 28 = .ok (.iload 4, 2) := by decide +kernel
theorem dX6_writePerson_30 : decode cX6_writePerson 30 = .ok (.bipush (-2), 2) := by decide +kernel
theorem dX6_writePerson_32 : decode cX6_writePerson 32 = .ok (.if_icmp .eq 25, 3) := by decide +kernel
theorem dX6_writePerson_35 : decode cX6_writePerson 35 = .ok (.aload_n 0, 1) := by decide +kernel
theorem dX6_writePerson_36 : decode cX6_writePerson 36 = .ok (.getfield 14, 3) := by decide +kernel
theorem dX6_writePerson_39 : decode cX6_writePerson 39 = .ok (.ldc 159, 2) := by decide +kernel
theorem dX6_writePerson_41 : decode cX6_writePerson 41 = .ok (.invokevirtual 61, 3) := by decide +kernel
theorem dX6_writePerson_44 : decode cX6_writePerson 44 = .ok (.aload_n 0, 1) := by decide +kernel
theorem dX6_writePerson_45 : decode cX6_writePerson 45 = .ok (.getfield 14, 3) := by decide +kernel
theorem dX6_writePerson_48 : decode cX6_writePerson 48 = .ok (.aload_n 1, 1) := by decide +kernel
theorem dX6_writePerson_49 : decode cX6_writePerson 49 = .ok (.iload 4, 2) := by decide +kernel
theorem dX6_writePerson_51 : decode cX6_writePerson 51 = .ok (.invokevirtual 130, 3) := by decide +kernel
theorem dX6_writePerson_54 : decode cX6_writePerson 54 = .ok (.invokevirtual 33, 3) := by decide +kernel
theorem dX6_writePerson_57 : decode cX6_writePerson 57 = .ok (.aload_n 0, 1) := by decide +kernel
theorem dX6_writePerson_58 : decode cX6_writePerson 58 = .ok (.getfield 14, 3) := by decide +kernel
theorem dX6_writePerson_61 : decode cX6_writePerson 61 = .ok (.bipush 59, 2) := by decide +kernel
theorem dX6_writePerson_63 : decode cX6_writePerson 63 = .ok (.invokevirtual 36, 3) := by decide +kernel
theorem dX6_writePerson_66 : decode cX6_writePerson 66 = .ok (.return_, 1) := by decide +kernel
theorem dX6_writeNumber_0 : decode cX6_writeNumber 0 = .ok (.aload_n 0, 1) := by decide +kernel
theorem dX6_writeNumber_1 : decode cX6_writeNumber 1 = .ok (.getfield 14, 3) := by decide +kernel
theorem dX6_writeNumber_4 : decode cX6_writeNumber 4 = .ok (.bipush 32, 2) := by decide +kernel
theorem dX6_writeNumber_6 : decode cX6_writeNumber 6 = .ok (.invokevirtual 36, 3) := by decide +kernel
theorem dX6_writeNumber_9 : decode cX6_writeNumber 9 = .ok (.aload_n 0, 1) := by decide +kernel
theorem dX6_writeNumber_10 : decode cX6_writeNumber 10 = .ok (.getfield 14, 3) := by decide +kernel
theorem dX6_writeNumber_13 : decode cX6_writeNumber 13 = .ok (.iload_n 1, 1) := by decide +kernel
theorem dX6_writeNumber_14 : decode cX6_writeNumber 14 = .ok (.invokevirtual 103, 3) := by decide +kernel
theorem dX6_writeNumber_17 : decode cX6_writeNumber 17 = .ok (.return_, 1) := by decide +kernel
theorem dX7_init_0 : decode cX7_init 0 = .ok (.aload_n 0, 1) := by decide +kernel
theorem dX7_init_1 : decode cX7_init 1 = .ok (.invokespecial 3, 3) := by decide +kernel
theorem dX7_init_4 : decode cX7_init 4 = .ok (.aload_n 0, 1) := by decide +kernel
theorem dX7_init_5 : decode cX7_init 5 = .ok (.bipush 10, 2) := by decide +kernel
theorem dX7_init_7 : decode cX7_init 7 = .ok (.newarray .int, 2) := by decide +kernel
theorem dX7_init_9 : decode cX7_init 9 = .ok (.putfield 9, 3) := by decide +kernel
theorem dX7_init_12 : decode cX7_init 12 = .ok (.aload_n 0, 1) := by decide +kernel
theorem dX7_init_13 : decode cX7_init 13 = .ok (.bipush 6, 2) := by decide +kernel
theorem dX7_init_15 : decode cX7_init 15 = .ok (.newarray .int, 2) := by decide +kernel
theorem dX7_init_17 : decode cX7_init 17 = .ok (.putfield 15, 3) := by decide +kernel
theorem dX7_init_20 : decode cX7_init 20 = .ok (.aload_n 0, 1) := by decide +kernel
theorem dX7_init_21 : decode cX7_init 21 = .ok (.bipush 20, 2) := by decide +kernel
theorem dX7_init_23 : decode cX7_init 23 = .ok (.newarray .int, 2) := by decide +kernel
theorem dX7_init_25 : decode cX7_init 25 = .ok (.putfield 18, 3) := by decide +kernel
theorem dX7_init_28 : decode cX7_init 28 = .ok (.aload_n 0, 1) := by decide +kernel
theorem dX7_init_29 : decode cX7_init 29 = .ok (.bipush 20, 2) := by decide +kernel
theorem dX7_init_31 : decode cX7_init 31 = .ok (.newarray .int, 2) := by decide +kernel
theorem dX7_init_33 : decode cX7_init 33 = .ok (.putfield 21, 3) := by decide +kernel
theorem dX7_init_36 : decode cX7_init 36 = .ok (.return_, 1) := by decide +kernel
theorem dX7_makeFirstVillage_0 : decode cX7_makeFirstVillage 0 = .ok (.aload_n 0, 1) := by decide +kernel
theorem dX7_makeFirstVillage_1 : decode cX7_makeFirstVillage 1 = .ok (.invokevirtual 24, 3) := by decide +kernel
theorem dX7_makeFirstVillage_4 : decode cX7_makeFirstVillage 4 = .ok (.aload_n 0, 1) := by decide +kernel
theorem dX7_makeFirstVillage_5 : decode cX7_makeFirstVillage 5 = .ok (.iconst 0, 1) := by decide +kernel
theorem dX7_makeFirstVillage_6 : decode cX7_makeFirstVillage 6 = .ok (.bipush 90, 2) := by decide +kernel
theorem dX7_makeFirstVillage_8 : decode cX7_makeFirstVillage 8 = .ok (.invokevirtual 27, 3) := by decide +kernel
theorem dX7_makeFirstVillage_11 : decode cX7_makeFirstVillage 11 = .ok (.iconst 0, 1) := by decide +kernel
theorem dX7_makeFirstVillage_12 : decode cX7_makeFirstVillage 12 = .ok (.istore_n 1, 1) := by decide +kernel
theorem dX7_makeFirstVillage_13 : decode cX7_makeFirstVillage 13 = .ok (.iload_n 1, 1) := by decide +kernel
theorem dX7_makeFirstVillage_14 : decode cX7_makeFirstVillage 14 = .ok (.iconst 4, 1) := by decide +kernel
theorem dX7_makeFirstVillage_15 : decode cX7_makeFirstVillage 15 = .ok (.if_icmp .ge 18, 3) := by decide +kernel
theorem dX7_makeFirstVillage_18 : decode cX7_makeFirstVillage 18 = .ok (.aload_n 0, 1) := by decide +kernel
theorem dX7_makeFirstVillage_19 : decode cX7_makeFirstVillage 19 = .ok (.iconst 1, 1) := by decide +kernel
theorem dX7_makeFirstVillage_20 : decode cX7_makeFirstVillage 20 = .ok (.iload_n 1, 1) := by decide +kernel
theorem dX7_makeFirstVillage_21 : decode cX7_makeFirstVillage 21 = .ok (.iadd, 1) := by decide +kernel
theorem dX7_makeFirstVillage_22 : decode cX7_makeFirstVillage 22 = .ok (.bipush 50, 2) := by decide +kernel
theorem dX7_makeFirstVillage_24 : decode cX7_makeFirstVillage 24 = .ok (.invokevirtual 27, 3) := by decide +kernel
theorem dX7_makeFirstVillage_27 : decode cX7_makeFirstVillage 27 = .ok (.iinc 1 1, 3) := by decide +kernel
theorem dX7_makeFirstVillage_30 : decode cX7_makeFirstVillage 30 = .ok (.goto (-17), 3) := by decide +kernel
theorem dX7_makeFirstVillage_33 : decode cX7_makeFirstVillage 33 = .ok (.aload_n 0, 1) := by decide +kernel
theorem dX7_makeFirstVillage_34 : decode cX7_makeFirstVillage 34 = .ok (.iconst 5, 1) := by decide +kernel
theorem dX7_makeFirstVillage_35 : decode cX7_makeFirstVillage 35 = .ok (.iconst 1, 1) := by decide +kernel
theorem dX7_makeFirstVillage_36 : decode cX7_makeFirstVillage 36 = .ok (.invokevirtual 27, 3) := by decide +kernel
theorem dX7_makeFirstVillage_39 : decode cX7_makeFirstVillage 39 = .ok (.aload_n 0, 1) := by decide +kernel
theorem dX7_makeFirstVillage_40 : decode cX7_makeFirstVillage 40 = .ok (.bipush 6, 2) := by decide +kernel
theorem dX7_makeFirstVillage_42 : decode cX7_makeFirstVillage 42 = .ok (.iconst 1, 1) := by decide +kernel
theorem dX7_makeFirstVillage_43 : decode cX7_makeFirstVillage 43 = .ok (.invokevirtual 27, 3) := by decide +kernel
theorem dX7_makeFirstVillage_46 : decode cX7_makeFirstVillage 46 = .ok (.aload_n 0, 1) := by decide +kernel
theorem dX7_makeFirstVillage_47 : decode cX7_makeFirstVillage 47 = .ok (.bipush 7, 2) := by decide +kernel
theorem dX7_makeFirstVillage_49 : decode cX7_makeFirstVillage 49 = .ok (.iconst 1, 1) := by decide +kernel
theorem dX7_makeFirstVillage_50 : decode cX7_makeFirstVillage 50 = .ok (.invokevirtual 27, 3) := by decide +kernel
theorem dX7_makeFirstVillage_53 : decode cX7_makeFirstVillage 53 = .ok (.aload_n 0, 1) := by decide +kernel
theorem dX7_makeFirstVillage_54 : decode cX7_makeFirstVillage 54 = .ok (.bipush 8, 2) := by decide +kernel
theorem dX7_makeFirstVillage_56 : decode cX7_makeFirstVillage 56 = .ok (.iconst 3, 1) := by decide +kernel
theorem dX7_makeFirstVillage_57 : decode cX7_makeFirstVillage 57 = .ok (.invokevirtual 27, 3) := by decide +kernel
theorem dX7_makeFirstVillage_60 : decode cX7_makeFirstVillage 60 = .ok (.aload_n 0, 1) := by decide +kernel
theorem dX7_makeFirstVillage_61 : decode cX7_makeFirstVillage 61 = .ok (.bipush 9, 2) := by decide +kernel
theorem dX7_makeFirstVillage_63 : decode cX7_makeFirstVillage 63 = .ok (.iconst 1, 1) := by decide +kernel
theorem dX7_makeFirstVillage_64 : decode cX7_makeFirstVillage 64 = .ok (.invokevirtual 27, 3) := by decide +kernel
theorem dX7_makeFirstVillage_67 : decode cX7_makeFirstVillage 67 = .ok (.aload_n 0, 1) := by decide +kernel
theorem dX7_makeFirstVillage_68 : decode cX7_makeFirstVillage 68 = .ok (.ldc 31, 2) := by decide +kernel
theorem dX7_makeFirstVillage_70 : decode cX7_makeFirstVillage 70 = .ok (.bipush (-2), 2) := by decide +kernel
theorem dX7_makeFirstVillage_72 : decode cX7_makeFirstVillage 72 = .ok (.invokevirtual 32, 3) := by decide +kernel
theorem dX7_makeFirstVillage_75 : decode cX7_makeFirstVillage 75 = .ok (.aload_n 0, 1) := by decide +kernel
theorem dX7_makeFirstVillage_76 : decode cX7_makeFirstVillage 76 = .ok (.ldc 35, 2) := by decide +kernel
theorem dX7_makeFirstVillage_78 : decode cX7_makeFirstVillage 78 = .ok (.bipush (-2), 2) := by decide +kernel
theorem dX7_makeFirstVillage_80 : decode cX7_makeFirstVillage 80 = .ok (.invokevirtual 32, 3) := by decide +kernel
theorem dX7_makeFirstVillage_83 : decode cX7_makeFirstVillage 83 = .ok (.return_, 1) := by decide +kernel
theorem dX7_clear_0 : decode cX7_clear 0 = .ok (.aload_n 0, 1) := by decide +kernel
theorem dX7_clear_1 : decode cX7_clear 1 = .ok (.iconst 0, 1) := by decide +kernel
theorem dX7_clear_2 : decode cX7_clear 2 = .ok (.putfield 36, 3) := by decide +kernel
theorem dX7_clear_5 : decode cX7_clear 5 = .ok (.aload_n 0, 1) := by decide +kernel
theorem dX7_clear_6 : decode cX7_clear 6 = .ok (.iconst 0, 1) := by decide +kernel
theorem dX7_clear_7 : decode cX7_clear 7 = .ok (.putfield 40, 3) := by decide +kernel
theorem dX7_clear_10 : decode cX7_clear 10 = .ok (.return_, 1) := by decide +kernel
theorem dX7_copyFrom_0 : decode cX7_copyFrom 0 = .ok (.aload_n 1, 1) := by decide +kernel
theorem dX7_copyFrom_1 : decode cX7_copyFrom 1 = .ok (.getfield 9, 3) := by decide +kernel
theorem dX7_copyFrom_4 : decode cX7_copyFrom 4 = .ok (.aload_n 0, 1) := by decide +kernel
theorem dX7_copyFrom_5 : decode cX7_copyFrom 5 = .ok (.getfield 9, 3) := by decide +kernel
theorem dX7_copyFrom_8 : decode cX7_copyFrom 8 = .ok (.invokestatic 43, 3) := by decide +kernel
theorem dX7_copyFrom_11 : decode cX7_copyFrom 11 = .ok (.aload_n 1, 1) := by decide +kernel
theorem dX7_copyFrom_12 : decode cX7_copyFrom 12 = .ok (.getfield 15, 3) := by decide +kernel
theorem dX7_copyFrom_15 : decode cX7_copyFrom 15 = .ok (.aload_n 0, 1) := by decide +kernel
theorem dX7_copyFrom_16 : decode cX7_copyFrom 16 = .ok (.getfield 15, 3) := by decide +kernel
theorem dX7_copyFrom_19 : decode cX7_copyFrom 19 = .ok (.invokestatic 43, 3) := by decide +kernel
theorem dX7_copyFrom_22 : decode cX7_copyFrom 22 = .ok (.aload_n 1, 1) := by decide +kernel
theorem dX7_copyFrom_23 : decode cX7_copyFrom 23 = .ok (.getfield 18, 3) := by decide +kernel
theorem dX7_copyFrom_26 : decode cX7_copyFrom 26 = .ok (.aload_n 0, 1) := by decide +kernel
theorem dX7_copyFrom_27 : decode cX7_copyFrom 27 = .ok (.getfield 18, 3) := by decide +kernel
theorem dX7_copyFrom_30 : decode cX7_copyFrom 30 = .ok (.invokestatic 43, 3) := by decide +kernel
theorem dX7_copyFrom_33 : decode cX7_copyFrom 33 = .ok (.aload_n 1, 1) := by decide +kernel
theorem dX7_copyFrom_34 : decode cX7_copyFrom 34 = .ok (.getfield 21, 3) := by decide +kernel
theorem dX7_copyFrom_37 : decode cX7_copyFrom 37 = .ok (.aload_n 0, 1) := by decide +kernel
theorem dX7_copyFrom_38 : decode cX7_copyFrom 38 = .ok (.getfield 21, 3) := by decide +kernel
theorem dX7_copyFrom_41 : decode cX7_copyFrom 41 = .ok (.invokestatic 43, 3) := by decide +kernel
theorem dX7_copyFrom_44 : decode cX7_copyFrom 44 = .ok (.aload_n 0, 1) := by decide +kernel
theorem dX7_copyFrom_45 : decode cX7_copyFrom 45 = .ok (.aload_n 1, 1) := by decide +kernel
theorem dX7_copyFrom_46 : decode cX7_copyFrom 46 = .ok (.getfield 36, 3) := by decide +kernel
theorem dX7_copyFrom_49 : decode cX7_copyFrom 49 = .ok (.putfield 36, 3) := by decide +kernel
theorem dX7_copyFrom_52 : decode cX7_copyFrom 52 = .ok (.aload_n 0, 1) := by decide +kernel
theorem dX7_copyFrom_53 : decode cX7_copyFrom 53 = .ok (.aload_n 1, 1) := by decide +kernel
theorem dX7_copyFrom_54 : decode cX7_copyFrom 54 = .ok (.getfield 40, 3) := by decide +kernel
theorem dX7_copyFrom_57 : decode cX7_copyFrom 57 = .ok (.putfield 40, 3) := by decide +kernel
theorem dX7_copyFrom_60 : decode cX7_copyFrom 60 = .ok (.return_, 1) := by decide +kernel
theorem dX7_boats_0 : decode cX7_boats 0 = .ok (.aload_n 0, 1) := by decide +kernel
theorem dX7_boats_1 : decode cX7_boats 1 = .ok (.getfield 36, 3) := by decide +kernel
theorem dX7_boats_4 : decode cX7_boats 4 = .ok (.ireturn, 1) := by decide +kernel
theorem dX7_people_0 : decode cX7_people 0 = .ok (.aload_n 0, 1) := by decide +kernel
theorem dX7_people_1 : decode cX7_people 1 = .ok (.getfield 40, 3) := by decide +kernel
theorem dX7_people_4 : decode cX7_people 4 = .ok (.ireturn, 1) := by decide +kernel
theorem dX7_numberOf_0 : decode cX7_numberOf 0 = .ok (.aload_n 0, 1) := by decide +kernel
theorem dX7_numberOf_1 : decode cX7_numberOf 1 = .ok (.getfield 9, 3) := by decide +kernel
theorem dX7_numberOf_4 : decode cX7_numberOf 4 = .ok (.iload_n 1, 1) := by decide +kernel
theorem dX7_numberOf_5 : decode cX7_numberOf 5 = .ok (.iconst 0, 1) := by decide +kernel
theorem dX7_numberOf_6 : decode cX7_numberOf 6 = .ok (.invokestatic 47, 3) := by decide +kernel
theorem dX7_numberOf_9 : decode cX7_numberOf 9 = .ok (.ireturn, 1) := by decide +kernel
theorem dX7_setNumber_0 : decode cX7_setNumber 0 = .ok (.aload_n 0, 1) := by decide +kernel
theorem dX7_setNumber_1 : decode cX7_setNumber 1 = .ok (.getfield 9, 3) := by decide +kernel
theorem dX7_setNumber_4 : decode cX7_setNumber 4 = .ok (.iload_n 1, 1) := by decide +kernel
theorem dX7_setNumber_5 : decode cX7_setNumber 5 = .ok (.iload_n 2, 1) := by decide +kernel
theorem dX7_setNumber_6 : decode cX7_setNumber 6 = .ok (.invokestatic 51, 3) := by decide +kernel
theorem dX7_setNumber_9 : decode cX7_setNumber 9 = .ok (.return_, 1) := by decide +kernel
theorem dX7_addBoat_0 : decode cX7_addBoat 0 = .ok (.aload_n 0, 1) := by decide +kernel
theorem dX7_addBoat_1 : decode cX7_addBoat 1 = .ok (.getfield 36, 3) := by decide +kernel
theorem dX7_addBoat_4 : decode cX7_addBoat 4 = .ok (.bipush 6, 2) := by decide +kernel
theorem dX7_addBoat_6 : decode cX7_addBoat 6 = .ok (.if_icmp .lt 4, 3) := by decide +kernel
theorem dX7_addBoat_9 : decode cX7_addBoat 9 = .ok (.return_, 1) := by decide +kernel
theorem dX7_addBoat_10 : decode cX7_addBoat 10 = .ok (.aload_n 0, 1) := by decide +kernel
theorem dX7_addBoat_11 : decode cX7_addBoat 11 = .ok (.getfield 15, 3) := by decide +kernel
theorem dX7_addBoat_14 : decode cX7_addBoat 14 = .ok (.aload_n 0, 1) := by decide +kernel
theorem dX7_addBoat_15 : decode cX7_addBoat 15 = .ok (.getfield 36, 3) := by decide +kernel
theorem dX7_addBoat_18 : decode cX7_addBoat 18 = .ok (.iload_n 1, 1) := by decide +kernel
theorem dX7_addBoat_19 : decode cX7_addBoat 19 = .ok (.invokestatic 51, 3) := by decide +kernel
theorem dX7_addBoat_22 : decode cX7_addBoat 22 = .ok (.aload_n 0, 1) := by decide +kernel
theorem dX7_addBoat_23 : decode cX7_addBoat 23 = .ok (.dup, 1) := by decide +kernel
theorem dX7_addBoat_24 : decode cX7_addBoat 24 = .ok (.getfield 36, 3) := by decide +kernel
theorem dX7_addBoat_27 : decode cX7_addBoat 27 = .ok (.iconst 1, 1) := by decide +kernel
theorem dX7_addBoat_28 : decode cX7_addBoat 28 = .ok (.iadd, 1) := by decide +kernel
theorem dX7_addBoat_29 : decode cX7_addBoat 29 = .ok (.putfield 36, 3) := by decide +kernel
theorem dX7_addBoat_32 : decode cX7_addBoat 32 = .ok (.return_, 1) := by decide +kernel
theorem dX7_addPerson_0 : decode cX7_addPerson 0 = .ok (.aload_n 0, 1) := by decide +kernel
theorem dX7_addPerson_1 : decode cX7_addPerson 1 = .ok (.getfield 40, 3) := by decide +kernel
theorem dX7_addPerson_4 : decode cX7_addPerson 4 = .ok (.bipush 20, 2) := by decide +kernel
theorem dX7_addPerson_6 : decode cX7_addPerson 6 = .ok (.if_icmp .lt 4, 3) := by decide +kernel
theorem dX7_addPerson_9 : decode cX7_addPerson 9 = .ok (.return_, 1) := by decide +kernel
theorem dX7_addPerson_10 : decode cX7_addPerson 10 = .ok (.aload_n 0, 1) := by decide +kernel
theorem dX7_addPerson_11 : decode cX7_addPerson 11 = .ok (.getfield 18, 3) := by decide +kernel
theorem dX7_addPerson_14 : decode cX7_addPerson 14 = .ok (.aload_n 0, 1) := by decide +kernel
theorem dX7_addPerson_15 : decode cX7_addPerson 15 = .ok (.getfield 40, 3) := by decide +kernel
theorem dX7_addPerson_18 : decode cX7_addPerson 18 = .ok (.iload_n 1, 1) := by decide +kernel
theorem dX7_addPerson_19 : decode cX7_addPerson 19 = .ok (.invokestatic 51, 3) := by decide +kernel
theorem dX7_addPerson_22 : decode cX7_addPerson 22 = .ok (.aload_n 0, 1) := by decide +kernel
theorem dX7_addPerson_23 : decode cX7_addPerson 23 = .ok (.getfield 21, 3) := by decide +kernel
theorem dX7_addPerson_26 : decode cX7_addPerson 26 = .ok (.aload_n 0, 1) := by decide +kernel
theorem dX7_addPerson_27 : decode cX7_addPerson 27 = .ok (.getfield 40, 3) := by decide +kernel
theorem dX7_addPerson_30 : decode cX7_addPerson 30 = .ok (.iload_n 2, 1) := by decide +kernel
theorem dX7_addPerson_31 : decode cX7_addPerson 31 = .ok (.invokestatic 51, 3) := by decide +kernel
theorem dX7_addPerson_34 : decode cX7_addPerson 34 = .ok (.aload_n 0, 1) := by decide +kernel
theorem dX7_addPerson_35 : decode cX7_addPerson 35 = .ok (.dup, 1) := by decide +kernel
theorem dX7_addPerson_36 : decode cX7_addPerson 36 = .ok (.getfield 40, 3) := by decide +kernel
theorem dX7_addPerson_39 : decode cX7_addPerson 39 = .ok (.iconst 1, 1) := by decide +kernel
theorem dX7_addPerson_40 : decode cX7_addPerson 40 = .ok (.iadd, 1) := by decide +kernel
theorem dX7_addPerson_41 : decode cX7_addPerson 41 = .ok (.putfield 40, 3) := by decide +kernel
theorem dX7_addPerson_44 : decode cX7_addPerson 44 = .ok (.return_, 1) := by decide +kernel
theorem dX7_boatName_0 : decode cX7_boatName 0 = .ok (.aload_n 0, 1) := by decide +kernel
theorem dX7_boatName_1 : decode cX7_boatName 1 = .ok (.getfield 15, 3) := by decide +kernel
theorem dX7_boatName_4 : decode cX7_boatName 4 = .ok (.iload_n 1, 1) := by decide +kernel
theorem dX7_boatName_5 : decode cX7_boatName 5 = .ok (.iconst 0, 1) := by decide +kernel
theorem dX7_boatName_6 : decode cX7_boatName 6 = .ok (.invokestatic 47, 3) := by decide +kernel
theorem dX7_boatName_9 : decode cX7_boatName 9 = .ok (.ireturn, 1) := by decide +kernel
theorem dX7_personName_0 : decode cX7_personName 0 = .ok (.aload_n 0, 1) := by decide +kernel
theorem dX7_personName_1 : decode cX7_personName 1 = .ok (.getfield 18, 3) := by decide +kernel
theorem dX7_personName_4 : decode cX7_personName 4 = .ok (.iload_n 1, 1) := by decide +kernel
theorem dX7_personName_5 : decode cX7_personName 5 = .ok (.iconst 0, 1) := by decide +kernel
theorem dX7_personName_6 : decode cX7_personName 6 = .ok (.invokestatic 47, 3) := by decide +kernel
theorem dX7_personName_9 : decode cX7_personName 9 = .ok (.ireturn, 1) := by decide +kernel
theorem dX7_firstBoatOf_0 : decode cX7_firstBoatOf 0 = .ok (.aload_n 0, 1) := by decide +kernel
theorem dX7_firstBoatOf_1 : decode cX7_firstBoatOf 1 = .ok (.getfield 21, 3) := by decide +kernel
theorem dX7_firstBoatOf_4 : decode cX7_firstBoatOf 4 = .ok (.iload_n 1, 1) := by decide +kernel
theorem dX7_firstBoatOf_5 : decode cX7_firstBoatOf 5 = .ok (.bipush (-2), 2) := by decide +kernel
theorem dX7_firstBoatOf_7 : decode cX7_firstBoatOf 7 = .ok (.invokestatic 47, 3) := by decide +kernel
theorem dX7_firstBoatOf_10 : decode cX7_firstBoatOf 10 = .ok (.ireturn, 1) := by decide +kernel
theorem dX7_boatNamed_0 : decode cX7_boatNamed 0 = .ok (.aload_n 0, 1) := by decide +kernel
theorem dX7_boatNamed_1 : decode cX7_boatNamed 1 = .ok (.getfield 15, 3) := by decide +kernel
theorem dX7_boatNamed_4 : decode cX7_boatNamed 4 = .ok (.aload_n 0, 1) := by decide +kernel
theorem dX7_boatNamed_5 : decode cX7_boatNamed 5 = .ok (.getfield 36, 3) := by decide +kernel
theorem dX7_boatNamed_8 : decode cX7_boatNamed 8 = .ok (.iload_n 1, 1) := by decide +kernel
theorem dX7_boatNamed_9 : decode cX7_boatNamed 9 = .ok (.invokestatic 55, 3) := by decide +kernel
theorem dX7_boatNamed_12 : decode cX7_boatNamed 12 = .ok (.ireturn, 1) := by decide +kernel
theorem dX7_personNamed_0 : decode cX7_personNamed 0 = .ok (.aload_n 0, 1) := by decide +kernel
theorem dX7_personNamed_1 : decode cX7_personNamed 1 = .ok (.getfield 18, 3) := by decide +kernel
theorem dX7_personNamed_4 : decode cX7_personNamed 4 = .ok (.aload_n 0, 1) := by decide +kernel
theorem dX7_personNamed_5 : decode cX7_personNamed 5 = .ok (.getfield 40, 3) := by decide +kernel
theorem dX7_personNamed_8 : decode cX7_personNamed 8 = .ok (.iload_n 1, 1) := by decide +kernel
theorem dX7_personNamed_9 : decode cX7_personNamed 9 = .ok (.invokestatic 55, 3) := by decide +kernel
theorem dX7_personNamed_12 : decode cX7_personNamed 12 = .ok (.ireturn, 1) := by decide +kernel
theorem dX7_find_0 : decode cX7_find 0 = .ok (.iconst 0, 1) := by decide +kernel
theorem dX7_find_1 : decode cX7_find 1 = .ok (.istore_n 3, 1) := by decide +kernel
theorem dX7_find_2 : decode cX7_find 2 = .ok (.iload_n 3, 1) := by decide +kernel
theorem dX7_find_3 : decode cX7_find 3 = .ok (.iload_n 1, 1) := by decide +kernel
theorem dX7_find_4 : decode cX7_find 4 = .ok (.if_icmp .ge 24, 3) := by decide +kernel
theorem dX7_find_7 : decode cX7_find 7 = .ok (.iload_n 3, 1) := by decide +kernel
theorem dX7_find_8 : decode cX7_find 8 = .ok (.aload_n 0, 1) := by decide +kernel
theorem dX7_find_9 : decode cX7_find 9 = .ok (.arraylength, 1) := by decide +kernel
theorem dX7_find_10 : decode cX7_find 10 = .ok (.if_icmp .ge 18, 3) := by decide +kernel
theorem dX7_find_13 : decode cX7_find 13 = .ok (.aload_n 0, 1) := by decide +kernel
theorem dX7_find_14 : decode cX7_find 14 = .ok (.iload_n 3, 1) := by decide +kernel
theorem dX7_find_15 : decode cX7_find 15 = .ok (.iaload, 1) := by decide +kernel
theorem dX7_find_16 : decode cX7_find 16 = .ok (.iload_n 2, 1) := by decide +kernel
theorem dX7_find_17 : decode cX7_find 17 = .ok (.if_icmp .ne 5, 3) := by decide +kernel
theorem dX7_find_20 : decode cX7_find 20 = .ok (.iload_n 3, 1) := by decide +kernel
theorem dX7_find_21 : decode cX7_find 21 = .ok (.ireturn, 1) := by decide +kernel
theorem dX7_find_22 : decode cX7_find 22 = .ok (.iinc 3 1, 3) := by decide +kernel
theorem dX7_find_25 : decode cX7_find 25 = .ok (.goto (-23), 3) := by decide +kernel
theorem dX7_find_28 : decode cX7_find 28 = .ok (.bipush (-2), 2) := by decide +kernel
theorem dX7_find_30 : decode cX7_find 30 = .ok (.ireturn, 1) := by decide +kernel
theorem dX7_isName_0 : decode cX7_isName 0 = .ok (.iload_n 0, 1) := by decide +kernel
theorem dX7_isName_1 : decode cX7_isName 1 = .ok (.ifCond .le 10, 3) := by decide +kernel
theorem dX7_isName_4 : decode cX7_isName 4 = .ok (.iload_n 0, 1) := by decide +kernel
theorem dX7_isName_5 : decode cX7_isName 5 = .ok (.bipush 30, 2) := by decide +kernel
theorem dX7_isName_7 : decode cX7_isName 7 = .ok (.ishr, 1) := by decide +kernel
theorem dX7_isName_8 : decode cX7_isName 8 = .ok (.ifCond .eq 5, 3) := by decide +kernel
theorem dX7_isName_11 : decode cX7_isName 11 = .ok (.iconst 0, 1) := by decide +kernel
theorem dX7_isName_12 : decode cX7_isName 12 = .ok (.ireturn, 1) := by decide +kernel
theorem dX7_isName_13 : decode cX7_isName 13 = .ok (.iconst 0, 1) := by decide +kernel
theorem dX7_isName_14 : decode cX7_isName 14 = .ok (.istore_n 1, 1) := by decide +kernel
theorem dX7_isName_15 : decode cX7_isName 15 = .ok (.bipush 25, 2) := by decide +kernel
theorem dX7_isName_17 : decode cX7_isName 17 = .ok (.istore_n 2, 1) := by decide +kernel
theorem dX7_isName_18 : decode cX7_isName 18 = .ok (.iload_n 2, 1) := by decide +kernel
theorem dX7_isName_19 : decode cX7_isName 19 = .ok (.ifCond .lt 38, 3) := by decide +kernel
theorem dX7_isName_22 : decode cX7_isName 22 = .ok (.iload_n 0, 1) := by decide +kernel
theorem dX7_isName_23 : decode cX7_isName 23 = .ok (.iload_n 2, 1) := by decide +kernel
theorem dX7_isName_24 : decode cX7_isName 24 = .ok (.ishr, 1) := by decide +kernel
theorem dX7_isName_25 : decode cX7_isName 25 = .ok (.bipush 31, 2) := by decide +kernel
theorem dX7_isName_27 : decode cX7_isName 27 = .ok (.iand, 1) := by decide +kernel
theorem dX7_isName_28 : decode cX7_isName 28 = .ok (.istore_n 3, 1) := by decide +kernel
theorem dX7_isName_29 : decode cX7_isName 29 = .ok (.iload_n 3, 1) := by decide +kernel
theorem dX7_isName_30 : decode cX7_isName 30 = .ok (.bipush 26, 2) := by decide +kernel
theorem dX7_isName_32 : decode cX7_isName 32 = .ok (.if_icmp .gt 11, 3) := by decide +kernel
theorem dX7_isName_35 : decode cX7_isName 35 = .ok (.iload_n 3, 1) := by decide +kernel
theorem dX7_isName_36 : decode cX7_isName 36 = .ok (.ifCond .eq 9, 3) := by decide +kernel
theorem dX7_isName_39 : decode cX7_isName 39 = .ok (.iload_n 1, 1) := by decide +kernel
theorem dX7_isName_40 : decode cX7_isName 40 = .ok (.ifCond .eq 5, 3) := by decide +kernel
theorem dX7_isName_43 : decode cX7_isName 43 = .ok (.iconst 0, 1) := by decide +kernel
theorem dX7_isName_44 : decode cX7_isName 44 = .ok (.ireturn, 1) := by decide +kernel
theorem dX7_isName_45 : decode cX7_isName 45 = .ok (.iload_n 3, 1) := by decide +kernel
theorem dX7_isName_46 : decode cX7_isName 46 = .ok (.ifCond .ne 5, 3) := by decide +kernel
theorem dX7_isName_49 : decode cX7_isName 49 = .ok (.iconst 1, 1) := by decide +kernel
theorem dX7_isName_50 : decode cX7_isName 50 = .ok (.istore_n 1, 1) := by decide +kernel
theorem dX7_isName_51 : decode cX7_isName 51 = .ok (.iinc 2 (-5), 3) := by decide +kernel
theorem dX7_isName_54 : decode cX7_isName 54 = .ok (.goto (-36), 3) := by decide +kernel
theorem dX7_isName_57 : decode cX7_isName 57 = .ok (.iconst 1, 1) := by decide +kernel
theorem dX7_isName_58 : decode cX7_isName 58 = .ok (.ireturn, 1) := by decide +kernel
theorem dX8_init_0 : decode cX8_init 0 = .ok (.aload_n 0, 1) := by decide +kernel
theorem dX8_init_1 : decode cX8_init 1 = .ok (.invokespecial 3, 3) := by decide +kernel
theorem dX8_init_4 : decode cX8_init 4 = .ok (.aload_n 0, 1) := by decide +kernel
theorem dX8_init_5 : decode cX8_init 5 = .ok (.new 9, 3) := by decide +kernel
theorem dX8_init_8 : decode cX8_init 8 = .ok (.dup, 1) := by decide +kernel
theorem dX8_init_9 : decode cX8_init 9 = .ok (.invokespecial 11, 3) := by decide +kernel
theorem dX8_init_12 : decode cX8_init 12 = .ok (.putfield 12, 3) := by decide +kernel
theorem dX8_init_15 : decode cX8_init 15 = .ok (.aload_n 0, 1) := by decide +kernel
theorem dX8_init_16 : decode cX8_init 16 = .ok (.new 18, 3) := by decide +kernel
theorem dX8_init_19 : decode cX8_init 19 = .ok (.dup, 1) := by decide +kernel
theorem dX8_init_20 : decode cX8_init 20 = .ok (.invokespecial 20, 3) := by decide +kernel
theorem dX8_init_23 : decode cX8_init 23 = .ok (.putfield 21, 3) := by decide +kernel
theorem dX8_init_26 : decode cX8_init 26 = .ok (.aload_n 0, 1) := by decide +kernel
theorem dX8_init_27 : decode cX8_init 27 = .ok (.new 25, 3) := by decide +kernel
theorem dX8_init_30 : decode cX8_init 30 = .ok (.dup, 1) := by decide +kernel
theorem dX8_init_31 : decode cX8_init 31 = .ok (.bipush 8, 2) := by decide +kernel
theorem dX8_init_33 : decode cX8_init 33 = .ok (.invokespecial 27, 3) := by decide +kernel
theorem dX8_init_36 : decode cX8_init 36 = .ok (.putfield 30, 3) := by decide +kernel
theorem dX8_init_39 : decode cX8_init 39 = .ok (.aload_n 0, 1) := by decide +kernel
theorem dX8_init_40 : decode cX8_init 40 = .ok (.new 25, 3) := by decide +kernel
theorem dX8_init_43 : decode cX8_init 43 = .ok (.dup, 1) := by decide +kernel
theorem dX8_init_44 : decode cX8_init 44 = .ok (.bipush 30, 2) := by decide +kernel
theorem dX8_init_46 : decode cX8_init 46 = .ok (.invokespecial 27, 3) := by decide +kernel
theorem dX8_init_49 : decode cX8_init 49 = .ok (.putfield 34, 3) := by decide +kernel
theorem dX8_init_52 : decode cX8_init 52 = .ok (.return_, 1) := by decide +kernel
theorem dX8_begin_0 : decode cX8_begin 0 = .ok (.aload_n 0, 1) := by decide +kernel
theorem dX8_begin_1 : decode cX8_begin 1 = .ok (.getfield 12, 3) := by decide +kernel
theorem dX8_begin_4 : decode cX8_begin 4 = .ok (.aload_n 1, 1) := by decide +kernel
theorem dX8_begin_5 : decode cX8_begin 5 = .ok (.invokevirtual 37, 3) := by decide +kernel
theorem dX8_begin_8 : decode cX8_begin 8 = .ok (.aload_n 0, 1) := by decide +kernel
theorem dX8_begin_9 : decode cX8_begin 9 = .ok (.getfield 21, 3) := by decide +kernel
theorem dX8_begin_12 : decode cX8_begin 12 = .ok (.invokevirtual 41, 3) := by decide +kernel
theorem dX8_begin_15 : decode cX8_begin 15 = .ok (.aload_n 0, 1) := by decide +kernel
theorem dX8_begin_16 : decode cX8_begin 16 = .ok (.getfield 30, 3) := by decide +kernel
theorem dX8_begin_19 : decode cX8_begin 19 = .ok (.invokevirtual 43, 3) := by decide +kernel
theorem dX8_begin_22 : decode cX8_begin 22 = .ok (.aload_n 0, 1) := by decide +kernel
theorem dX8_begin_23 : decode cX8_begin 23 = .ok (.getfield 34, 3) := by decide +kernel
theorem dX8_begin_26 : decode cX8_begin 26 = .ok (.invokevirtual 43, 3) := by decide +kernel
theorem dX8_begin_29 : decode cX8_begin 29 = .ok (.aload_n 0, 1) := by decide +kernel
theorem dX8_begin_30 : decode cX8_begin 30 = .ok (.iconst 0, 1) := by decide +kernel
theorem dX8_begin_31 : decode cX8_begin 31 = .ok (.putfield 46, 3) := by decide +kernel
theorem dX8_begin_34 : decode cX8_begin 34 = .ok (.aload_n 0, 1) := by decide +kernel
theorem dX8_begin_35 : decode cX8_begin 35 = .ok (.iconst 0, 1) := by decide +kernel
theorem dX8_begin_36 : decode cX8_begin 36 = .ok (.putfield 50, 3) := by decide +kernel
theorem dX8_begin_39 : decode cX8_begin 39 = .ok (.aload_n 0, 1) := by decide +kernel
theorem dX8_begin_40 : decode cX8_begin 40 = .ok (.iconst 0, 1) := by decide +kernel
theorem dX8_begin_41 : decode cX8_begin 41 = .ok (.invokevirtual 53, 3) := by decide +kernel
theorem dX8_begin_44 : decode cX8_begin 44 = .ok (.aload_n 0, 1) := by decide +kernel
theorem dX8_begin_45 : decode cX8_begin 45 = .ok (.iconst 0, 1) := by decide +kernel
theorem dX8_begin_46 : decode cX8_begin 46 = .ok (.putfield 56, 3) := by decide +kernel
theorem dX8_begin_49 : decode cX8_begin 49 = .ok (.return_, 1) := by decide +kernel
theorem dX8_beginVote_0 : decode cX8_beginVote 0 = .ok (.aload_n 0, 1) := by decide +kernel
theorem dX8_beginVote_1 : decode cX8_beginVote 1 = .ok (.iconst 1, 1) := by decide +kernel
theorem dX8_beginVote_2 : decode cX8_beginVote 2 = .ok (.putfield 56, 3) := by decide +kernel
theorem dX8_beginVote_5 : decode cX8_beginVote 5 = .ok (.aload_n 0, 1) := by decide +kernel
theorem dX8_beginVote_6 : decode cX8_beginVote 6 = .ok (.iload_n 1, 1) := by decide +kernel
theorem dX8_beginVote_7 : decode cX8_beginVote 7 = .ok (.putfield 60, 3) := by decide +kernel
theorem dX8_beginVote_10 : decode cX8_beginVote 10 = .ok (.aload_n 0, 1) := by decide +kernel
theorem dX8_beginVote_11 : decode cX8_beginVote 11 = .ok (.iconst 0, 1) := by decide +kernel
theorem dX8_beginVote_12 : decode cX8_beginVote 12 = .ok (.putfield 63, 3) := by decide +kernel
theorem dX8_beginVote_15 : decode cX8_beginVote 15 = .ok (.aload_n 0, 1) := by decide +kernel
theorem dX8_beginVote_16 : decode cX8_beginVote 16 = .ok (.iconst 0, 1) := by decide +kernel
theorem dX8_beginVote_17 : decode cX8_beginVote 17 = .ok (.putfield 66, 3) := by decide +kernel
theorem dX8_beginVote_20 : decode cX8_beginVote 20 = .ok (.aload_n 0, 1) := by decide +kernel
theorem dX8_beginVote_21 : decode cX8_beginVote 21 = .ok (.iconst 0, 1) := by decide +kernel
theorem dX8_beginVote_22 : decode cX8_beginVote 22 = .ok (.putfield 69, 3) := by decide +kernel
theorem dX8_beginVote_25 : decode cX8_beginVote 25 = .ok (.aload_n 0, 1) := by decide +kernel
theorem dX8_beginVote_26 : decode cX8_beginVote 26 = .ok (.iconst 0, 1) := by decide +kernel
theorem dX8_beginVote_27 : decode cX8_beginVote 27 = .ok (.putfield 72, 3) := by decide +kernel
theorem dX8_beginVote_30 : decode cX8_beginVote 30 = .ok (.return_, 1) := by decide +kernel
theorem dX8_copyFrom_0 : decode cX8_copyFrom 0 = .ok (.aload_n 0, 1) := by decide +kernel
theorem dX8_copyFrom_1 : decode cX8_copyFrom 1 = .ok (.getfield 12, 3) := by decide +kernel
theorem dX8_copyFrom_4 : decode cX8_copyFrom 4 = .ok (.aload_n 1, 1) := by decide +kernel
theorem dX8_copyFrom_5 : decode cX8_copyFrom 5 = .ok (.getfield 12, 3) := by decide +kernel
theorem dX8_copyFrom_8 : decode cX8_copyFrom 8 = .ok (.invokevirtual 75, 3) := by decide +kernel
theorem dX8_copyFrom_11 : decode cX8_copyFrom 11 = .ok (.aload_n 0, 1) := by decide +kernel
theorem dX8_copyFrom_12 : decode cX8_copyFrom 12 = .ok (.getfield 21, 3) := by decide +kernel
theorem dX8_copyFrom_15 : decode cX8_copyFrom 15 = .ok (.aload_n 1, 1) := by decide +kernel
theorem dX8_copyFrom_16 : decode cX8_copyFrom 16 = .ok (.getfield 21, 3) := by decide +kernel
theorem dX8_copyFrom_19 : decode cX8_copyFrom 19 = .ok (.invokevirtual 79, 3) := by decide +kernel
theorem dX8_copyFrom_22 : decode cX8_copyFrom 22 = .ok (.aload_n 0, 1) := by decide +kernel
theorem dX8_copyFrom_23 : decode cX8_copyFrom 23 = .ok (.getfield 30, 3) := by decide +kernel
theorem dX8_copyFrom_26 : decode cX8_copyFrom 26 = .ok (.aload_n 1, 1) := by decide +kernel
theorem dX8_copyFrom_27 : decode cX8_copyFrom 27 = .ok (.getfield 30, 3) := by decide +kernel
theorem dX8_copyFrom_30 : decode cX8_copyFrom 30 = .ok (.invokevirtual 82, 3) := by decide +kernel
theorem dX8_copyFrom_33 : decode cX8_copyFrom 33 = .ok (.aload_n 0, 1) := by decide +kernel
theorem dX8_copyFrom_34 : decode cX8_copyFrom 34 = .ok (.getfield 34, 3) := by decide +kernel
theorem dX8_copyFrom_37 : decode cX8_copyFrom 37 = .ok (.aload_n 1, 1) := by decide +kernel
theorem dX8_copyFrom_38 : decode cX8_copyFrom 38 = .ok (.getfield 34, 3) := by decide +kernel
theorem dX8_copyFrom_41 : decode cX8_copyFrom 41 = .ok (.invokevirtual 82, 3) := by decide +kernel
theorem dX8_copyFrom_44 : decode cX8_copyFrom 44 = .ok (.aload_n 0, 1) := by decide +kernel
theorem dX8_copyFrom_45 : decode cX8_copyFrom 45 = .ok (.aload_n 1, 1) := by decide +kernel
theorem dX8_copyFrom_46 : decode cX8_copyFrom 46 = .ok (.getfield 46, 3) := by decide +kernel
theorem dX8_copyFrom_49 : decode cX8_copyFrom 49 = .ok (.putfield 46, 3) := by decide +kernel
theorem dX8_copyFrom_52 : decode cX8_copyFrom 52 = .ok (.aload_n 0, 1) := by decide +kernel
theorem dX8_copyFrom_53 : decode cX8_copyFrom 53 = .ok (.aload_n 1, 1) := by decide +kernel
theorem dX8_copyFrom_54 : decode cX8_copyFrom 54 = .ok (.getfield 50, 3) := by decide +kernel
theorem dX8_copyFrom_57 : decode cX8_copyFrom 57 = .ok (.putfield 50, 3) := by decide +kernel
theorem dX8_copyFrom_60 : decode cX8_copyFrom 60 = .ok (.aload_n 0, 1) := by decide +kernel
theorem dX8_copyFrom_61 : decode cX8_copyFrom 61 = .ok (.aload_n 1, 1) := by decide +kernel
theorem dX8_copyFrom_62 : decode cX8_copyFrom 62 = .ok (.getfield 56, 3) := by decide +kernel
theorem dX8_copyFrom_65 : decode cX8_copyFrom 65 = .ok (.putfield 56, 3) := by decide +kernel
theorem dX8_copyFrom_68 : decode cX8_copyFrom 68 = .ok (.aload_n 0, 1) := by decide +kernel
theorem dX8_copyFrom_69 : decode cX8_copyFrom 69 = .ok (.aload_n 1, 1) := by decide +kernel
theorem dX8_copyFrom_70 : decode cX8_copyFrom 70 = .ok (.getfield 60, 3) := by decide +kernel
theorem dX8_copyFrom_73 : decode cX8_copyFrom 73 = .ok (.putfield 60, 3) := by decide +kernel
theorem dX8_copyFrom_76 : decode cX8_copyFrom 76 = .ok (.aload_n 0, 1) := by decide +kernel
theorem dX8_copyFrom_77 : decode cX8_copyFrom 77 = .ok (.aload_n 1, 1) := by decide +kernel
theorem dX8_copyFrom_78 : decode cX8_copyFrom 78 = .ok (.getfield 63, 3) := by decide +kernel
theorem dX8_copyFrom_81 : decode cX8_copyFrom 81 = .ok (.putfield 63, 3) := by decide +kernel
theorem dX8_copyFrom_84 : decode cX8_copyFrom 84 = .ok (.aload_n 0, 1) := by decide +kernel
theorem dX8_copyFrom_85 : decode cX8_copyFrom 85 = .ok (.aload_n 1, 1) := by decide +kernel
theorem dX8_copyFrom_86 : decode cX8_copyFrom 86 = .ok (.getfield 66, 3) := by decide +kernel
theorem dX8_copyFrom_89 : decode cX8_copyFrom 89 = .ok (.putfield 66, 3) := by decide +kernel
theorem dX8_copyFrom_92 : decode cX8_copyFrom 92 = .ok (.aload_n 0, 1) := by decide +kernel
theorem dX8_copyFrom_93 : decode cX8_copyFrom 93 = .ok (.aload_n 1, 1) := by decide +kernel
theorem dX8_copyFrom_94 : decode cX8_copyFrom 94 = .ok (.getfield 69, 3) := by decide +kernel
theorem dX8_copyFrom_97 : decode cX8_copyFrom 97 = .ok (.putfield 69, 3) := by decide +kernel
theorem dX8_copyFrom_100 : decode cX8_copyFrom 100 = .ok (.aload_n 0, 1) := by decide +kernel
theorem dX8_copyFrom_101 : decode cX8_copyFrom 101 = .ok (.aload_n 1, 1) := by decide +kernel
theorem dX8_copyFrom_102 : decode cX8_copyFrom 102 = .ok (.getfield 72, 3) := by decide +kernel
theorem dX8_copyFrom_105 : decode cX8_copyFrom 105 = .ok (.putfield 72, 3) := by decide +kernel
theorem dX8_copyFrom_108 : decode cX8_copyFrom 108 = .ok (.return_, 1) := by decide +kernel
theorem dX9_init_0 : decode cX9_init 0 = .ok (.aload_n 0, 1) := by decide +kernel
theorem dX9_init_1 : decode cX9_init 1 = .ok (.invokespecial 3, 3) := by decide +kernel
theorem dX9_init_4 : decode cX9_init 4 = .ok (.aload_n 0, 1) := by decide +kernel
theorem dX9_init_5 : decode cX9_init 5 = .ok (.bipush 20, 2) := by decide +kernel
theorem dX9_init_7 : decode cX9_init 7 = .ok (.newarray .int, 2) := by decide +kernel
theorem dX9_init_9 : decode cX9_init 9 = .ok (.putfield 9, 3) := by decide +kernel
theorem dX9_init_12 : decode cX9_init 12 = .ok (.aload_n 0, 1) := by decide +kernel
theorem dX9_init_13 : decode cX9_init 13 = .ok (.bipush 20, 2) := by decide +kernel
theorem dX9_init_15 : decode cX9_init 15 = .ok (.newarray .int, 2) := by decide +kernel
theorem dX9_init_17 : decode cX9_init 17 = .ok (.putfield 15, 3) := by decide +kernel
theorem dX9_init_20 : decode cX9_init 20 = .ok (.aload_n 0, 1) := by decide +kernel
theorem dX9_init_21 : decode cX9_init 21 = .ok (.bipush 20, 2) := by decide +kernel
theorem dX9_init_23 : decode cX9_init 23 = .ok (.newarray .int, 2) := by decide +kernel
theorem dX9_init_25 : decode cX9_init 25 = .ok (.putfield 18, 3) := by decide +kernel
theorem dX9_init_28 : decode cX9_init 28 = .ok (.aload_n 0, 1) := by decide +kernel
theorem dX9_init_29 : decode cX9_init 29 = .ok (.bipush 20, 2) := by decide +kernel
theorem dX9_init_31 : decode cX9_init 31 = .ok (.newarray .int, 2) := by decide +kernel
theorem dX9_init_33 : decode cX9_init 33 = .ok (.putfield 21, 3) := by decide +kernel
theorem dX9_init_36 : decode cX9_init 36 = .ok (.aload_n 0, 1) := by decide +kernel
theorem dX9_init_37 : decode cX9_init 37 = .ok (.bipush 20, 2) := by decide +kernel
theorem dX9_init_39 : decode cX9_init 39 = .ok (.newarray .int, 2) := by decide +kernel
theorem dX9_init_41 : decode cX9_init 41 = .ok (.putfield 24, 3) := by decide +kernel
theorem dX9_init_44 : decode cX9_init 44 = .ok (.aload_n 0, 1) := by decide +kernel
theorem dX9_init_45 : decode cX9_init 45 = .ok (.bipush 20, 2) := by decide +kernel
theorem dX9_init_47 : decode cX9_init 47 = .ok (.newarray .int, 2) := by decide +kernel
theorem dX9_init_49 : decode cX9_init 49 = .ok (.putfield 27, 3) := by decide +kernel
theorem dX9_init_52 : decode cX9_init 52 = .ok (.return_, 1) := by decide +kernel
theorem dX9_begin_0 : decode cX9_begin 0 = .ok (.aload_n 0, 1) := by decide +kernel
theorem dX9_begin_1 : decode cX9_begin 1 = .ok (.getfield 9, 3) := by decide +kernel
theorem dX9_begin_4 : decode cX9_begin 4 = .ok (.iconst 0, 1) := by decide +kernel
theorem dX9_begin_5 : decode cX9_begin 5 = .ok (.invokestatic 30, 3) := by decide +kernel
theorem dX9_begin_8 : decode cX9_begin 8 = .ok (.aload_n 0, 1) := by decide +kernel
theorem dX9_begin_9 : decode cX9_begin 9 = .ok (.getfield 15, 3) := by decide +kernel
theorem dX9_begin_12 : decode cX9_begin 12 = .ok (.bipush (-2), 2) := by decide +kernel
theorem dX9_begin_14 : decode cX9_begin 14 = .ok (.invokestatic 30, 3) := by decide +kernel
theorem dX9_begin_17 : decode cX9_begin 17 = .ok (.aload_n 0, 1) := by decide +kernel
theorem dX9_begin_18 : decode cX9_begin 18 = .ok (.getfield 18, 3) := by decide +kernel
theorem dX9_begin_21 : decode cX9_begin 21 = .ok (.bipush (-2), 2) := by decide +kernel
theorem dX9_begin_23 : decode cX9_begin 23 = .ok (.invokestatic 30, 3) := by decide +kernel
theorem dX9_begin_26 : decode cX9_begin 26 = .ok (.aload_n 0, 1) := by decide +kernel
theorem dX9_begin_27 : decode cX9_begin 27 = .ok (.getfield 21, 3) := by decide +kernel
theorem dX9_begin_30 : decode cX9_begin 30 = .ok (.bipush (-2), 2) := by decide +kernel
theorem dX9_begin_32 : decode cX9_begin 32 = .ok (.invokestatic 30, 3) := by decide +kernel
theorem dX9_begin_35 : decode cX9_begin 35 = .ok (.aload_n 0, 1) := by decide +kernel
theorem dX9_begin_36 : decode cX9_begin 36 = .ok (.getfield 24, 3) := by decide +kernel
theorem dX9_begin_39 : decode cX9_begin 39 = .ok (.bipush (-2), 2) := by decide +kernel
theorem dX9_begin_41 : decode cX9_begin 41 = .ok (.invokestatic 30, 3) := by decide +kernel
theorem dX9_begin_44 : decode cX9_begin 44 = .ok (.aload_n 0, 1) := by decide +kernel
theorem dX9_begin_45 : decode cX9_begin 45 = .ok (.getfield 27, 3) := by decide +kernel
theorem dX9_begin_48 : decode cX9_begin 48 = .ok (.iconst 0, 1) := by decide +kernel
theorem dX9_begin_49 : decode cX9_begin 49 = .ok (.invokestatic 30, 3) := by decide +kernel
theorem dX9_begin_52 : decode cX9_begin 52 = .ok (.return_, 1) := by decide +kernel
theorem dX9_copyFrom_0 : decode cX9_copyFrom 0 = .ok (.aload_n 1, 1) := by decide +kernel
theorem dX9_copyFrom_1 : decode cX9_copyFrom 1 = .ok (.getfield 9, 3) := by decide +kernel
theorem dX9_copyFrom_4 : decode cX9_copyFrom 4 = .ok (.aload_n 0, 1) := by decide +kernel
theorem dX9_copyFrom_5 : decode cX9_copyFrom 5 = .ok (.getfield 9, 3) := by decide +kernel
theorem dX9_copyFrom_8 : decode cX9_copyFrom 8 = .ok (.invokestatic 34, 3) := by decide +kernel
theorem dX9_copyFrom_11 : decode cX9_copyFrom 11 = .ok (.aload_n 1, 1) := by decide +kernel
theorem dX9_copyFrom_12 : decode cX9_copyFrom 12 = .ok (.getfield 15, 3) := by decide +kernel
theorem dX9_copyFrom_15 : decode cX9_copyFrom 15 = .ok (.aload_n 0, 1) := by decide +kernel
theorem dX9_copyFrom_16 : decode cX9_copyFrom 16 = .ok (.getfield 15, 3) := by decide +kernel
theorem dX9_copyFrom_19 : decode cX9_copyFrom 19 = .ok (.invokestatic 34, 3) := by decide +kernel
theorem dX9_copyFrom_22 : decode cX9_copyFrom 22 = .ok (.aload_n 1, 1) := by decide +kernel
theorem dX9_copyFrom_23 : decode cX9_copyFrom 23 = .ok (.getfield 18, 3) := by decide +kernel
theorem dX9_copyFrom_26 : decode cX9_copyFrom 26 = .ok (.aload_n 0, 1) := by decide +kernel
theorem dX9_copyFrom_27 : decode cX9_copyFrom 27 = .ok (.getfield 18, 3) := by decide +kernel
theorem dX9_copyFrom_30 : decode cX9_copyFrom 30 = .ok (.invokestatic 34, 3) := by decide +kernel
theorem dX9_copyFrom_33 : decode cX9_copyFrom 33 = .ok (.aload_n 1, 1) := by decide +kernel
theorem dX9_copyFrom_34 : decode cX9_copyFrom 34 = .ok (.getfield 21, 3) := by decide +kernel
theorem dX9_copyFrom_37 : decode cX9_copyFrom 37 = .ok (.aload_n 0, 1) := by decide +kernel
theorem dX9_copyFrom_38 : decode cX9_copyFrom 38 = .ok (.getfield 21, 3) := by decide +kernel
theorem dX9_copyFrom_41 : decode cX9_copyFrom 41 = .ok (.invokestatic 34, 3) := by decide +kernel
theorem dX9_copyFrom_44 : decode cX9_copyFrom 44 = .ok (.aload_n 1, 1) := by decide +kernel
theorem dX9_copyFrom_45 : decode cX9_copyFrom 45 = .ok (.getfield 24, 3) := by decide +kernel
theorem dX9_copyFrom_48 : decode cX9_copyFrom 48 = .ok (.aload_n 0, 1) := by decide +kernel
theorem dX9_copyFrom_49 : decode cX9_copyFrom 49 = .ok (.getfield 24, 3) := by decide +kernel
theorem dX9_copyFrom_52 : decode cX9_copyFrom 52 = .ok (.invokestatic 34, 3) := by decide +kernel
theorem dX9_copyFrom_55 : decode cX9_copyFrom 55 = .ok (.aload_n 1, 1) := by decide +kernel
theorem dX9_copyFrom_56 : decode cX9_copyFrom 56 = .ok (.getfield 27, 3) := by decide +kernel
theorem dX9_copyFrom_59 : decode cX9_copyFrom 59 = .ok (.aload_n 0, 1) := by decide +kernel
theorem dX9_copyFrom_60 : decode cX9_copyFrom 60 = .ok (.getfield 27, 3) := by decide +kernel
theorem dX9_copyFrom_63 : decode cX9_copyFrom 63 = .ok (.invokestatic 34, 3) := by decide +kernel
theorem dX9_copyFrom_66 : decode cX9_copyFrom 66 = .ok (.return_, 1) := by decide +kernel
theorem dX9_placeOf_0 : decode cX9_placeOf 0 = .ok (.aload_n 0, 1) := by decide +kernel
theorem dX9_placeOf_1 : decode cX9_placeOf 1 = .ok (.getfield 9, 3) := by decide +kernel
theorem dX9_placeOf_4 : decode cX9_placeOf 4 = .ok (.iload_n 1, 1) := by decide +kernel
theorem dX9_placeOf_5 : decode cX9_placeOf 5 = .ok (.iconst 0, 1) := by decide +kernel
theorem dX9_placeOf_6 : decode cX9_placeOf 6 = .ok (.invokestatic 38, 3) := by decide +kernel
theorem dX9_placeOf_9 : decode cX9_placeOf 9 = .ok (.ireturn, 1) := by decide +kernel
theorem dX9_carrierOf_0 : decode cX9_carrierOf 0 = .ok (.aload_n 0, 1) := by decide +kernel
theorem dX9_carrierOf_1 : decode cX9_carrierOf 1 = .ok (.getfield 15, 3) := by decide +kernel
theorem dX9_carrierOf_4 : decode cX9_carrierOf 4 = .ok (.iload_n 1, 1) := by decide +kernel
theorem dX9_carrierOf_5 : decode cX9_carrierOf 5 = .ok (.bipush (-2), 2) := by decide +kernel
theorem dX9_carrierOf_7 : decode cX9_carrierOf 7 = .ok (.invokestatic 38, 3) := by decide +kernel
theorem dX9_carrierOf_10 : decode cX9_carrierOf 10 = .ok (.ireturn, 1) := by decide +kernel
theorem dX9_boundTo_0 : decode cX9_boundTo 0 = .ok (.aload_n 0, 1) := by decide +kernel
theorem dX9_boundTo_1 : decode cX9_boundTo 1 = .ok (.getfield 18, 3) := by decide +kernel
theorem dX9_boundTo_4 : decode cX9_boundTo 4 = .ok (.iload_n 1, 1) := by decide +kernel
theorem dX9_boundTo_5 : decode cX9_boundTo 5 = .ok (.bipush (-2), 2) := by decide +kernel
theorem dX9_boundTo_7 : decode cX9_boundTo 7 = .ok (.invokestatic 38, 3) := by decide +kernel
theorem dX9_boundTo_10 : decode cX9_boundTo 10 = .ok (.ireturn, 1) := by decide +kernel
theorem dX9_basketOf_0 : decode cX9_basketOf 0 = .ok (.aload_n 0, 1) := by decide +kernel
theorem dX9_basketOf_1 : decode cX9_basketOf 1 = .ok (.getfield 21, 3) := by decide +kernel
theorem dX9_basketOf_4 : decode cX9_basketOf 4 = .ok (.iload_n 1, 1) := by decide +kernel
theorem dX9_basketOf_5 : decode cX9_basketOf 5 = .ok (.bipush (-2), 2) := by decide +kernel
theorem dX9_basketOf_7 : decode cX9_basketOf 7 = .ok (.invokestatic 38, 3) := by decide +kernel
theorem dX9_basketOf_10 : decode cX9_basketOf 10 = .ok (.ireturn, 1) := by decide +kernel
theorem dX9_dayOf_0 : decode cX9_dayOf 0 = .ok (.aload_n 0, 1) := by decide +kernel
theorem dX9_dayOf_1 : decode cX9_dayOf 1 = .ok (.getfield 24, 3) := by decide +kernel
theorem dX9_dayOf_4 : decode cX9_dayOf 4 = .ok (.iload_n 1, 1) := by decide +kernel
theorem dX9_dayOf_5 : decode cX9_dayOf 5 = .ok (.bipush (-2), 2) := by decide +kernel
theorem dX9_dayOf_7 : decode cX9_dayOf 7 = .ok (.invokestatic 38, 3) := by decide +kernel
theorem dX9_dayOf_10 : decode cX9_dayOf 10 = .ok (.ireturn, 1) := by decide +kernel
theorem dX9_reasonOf_0 : decode cX9_reasonOf 0 = .ok (.aload_n 0, 1) := by decide +kernel
theorem dX9_reasonOf_1 : decode cX9_reasonOf 1 = .ok (.getfield 27, 3) := by decide +kernel
theorem dX9_reasonOf_4 : decode cX9_reasonOf 4 = .ok (.iload_n 1, 1) := by decide +kernel
theorem dX9_reasonOf_5 : decode cX9_reasonOf 5 = .ok (.iconst 0, 1) := by decide +kernel
theorem dX9_reasonOf_6 : decode cX9_reasonOf 6 = .ok (.invokestatic 38, 3) := by decide +kernel
theorem dX9_reasonOf_9 : decode cX9_reasonOf 9 = .ok (.ireturn, 1) := by decide +kernel
theorem dX9_isHadBy_0 : decode cX9_isHadBy 0 = .ok (.aload_n 0, 1) := by decide +kernel
theorem dX9_isHadBy_1 : decode cX9_isHadBy 1 = .ok (.iload_n 2, 1) := by decide +kernel
theorem dX9_isHadBy_2 : decode cX9_isHadBy 2 = .ok (.invokevirtual 42, 3) := by decide +kernel
theorem dX9_isHadBy_5 : decode cX9_isHadBy 5 = .ok (.ifCond .ne 14, 3) := by decide +kernel
theorem dX9_isHadBy_8 : decode cX9_isHadBy 8 = .ok (.iload_n 1, 1) := by decide +kernel
theorem dX9_isHadBy_9 : decode cX9_isHadBy 9 = .ok (.iload_n 2, 1) := by decide +kernel
theorem dX9_isHadBy_10 : decode cX9_isHadBy 10 = .ok (.if_icmp .ne 7, 3) := by decide +kernel
theorem dX9_isHadBy_13 : decode cX9_isHadBy 13 = .ok (.iconst 1, 1) := by decide +kernel
theorem dX9_isHadBy_14 : decode cX9_isHadBy 14 = .ok (.goto 4, 3) := by decide +kernel
theorem dX9_isHadBy_17 : decode cX9_isHadBy 17 = .ok (.iconst 0, 1) := by decide +kernel
theorem dX9_isHadBy_18 : decode cX9_isHadBy 18 = .ok (.ireturn, 1) := by decide +kernel
theorem dX9_isHadBy_19 : decode cX9_isHadBy 19 = .ok (.aload_n 0, 1) := by decide +kernel
theorem dX9_isHadBy_20 : decode cX9_isHadBy 20 = .ok (.iload_n 2, 1) := by decide +kernel
theorem dX9_isHadBy_21 : decode cX9_isHadBy 21 = .ok (.invokevirtual 42, 3) := by decide +kernel
theorem dX9_isHadBy_24 : decode cX9_isHadBy 24 = .ok (.iconst 1, 1) := by decide +kernel
theorem dX9_isHadBy_25 : decode cX9_isHadBy 25 = .ok (.if_icmp .ne 16, 3) := by decide +kernel
theorem dX9_isHadBy_28 : decode cX9_isHadBy 28 = .ok (.aload_n 0, 1) := by decide +kernel
theorem dX9_isHadBy_29 : decode cX9_isHadBy 29 = .ok (.iload_n 2, 1) := by decide +kernel
theorem dX9_isHadBy_30 : decode cX9_isHadBy 30 = .ok (.invokevirtual 46, 3) := by decide +kernel
theorem dX9_isHadBy_33 : decode cX9_isHadBy 33 = .ok (.iload_n 1, 1) := by decide +kernel
theorem dX9_isHadBy_34 : decode cX9_isHadBy 34 = .ok (.if_icmp .ne 7, 3) := by decide +kernel
theorem dX9_isHadBy_37 : decode cX9_isHadBy 37 = .ok (.iconst 1, 1) := by decide +kernel
theorem dX9_isHadBy_38 : decode cX9_isHadBy 38 = .ok (.goto 4, 3) := by decide +kernel
theorem dX9_isHadBy_41 : decode cX9_isHadBy 41 = .ok (.iconst 0, 1) := by decide +kernel
theorem dX9_isHadBy_42 : decode cX9_isHadBy 42 = .ok (.ireturn, 1) := by decide +kernel
theorem dX9_isWrong_0 : decode cX9_isWrong 0 = .ok (.aload_n 0, 1) := by decide +kernel
theorem dX9_isWrong_1 : decode cX9_isWrong 1 = .ok (.iload_n 1, 1) := by decide +kernel
theorem dX9_isWrong_2 : decode cX9_isWrong 2 = .ok (.invokevirtual 42, 3) := by decide +kernel
theorem dX9_isWrong_5 : decode cX9_isWrong 5 = .ok (.iconst 2, 1) := by decide +kernel
theorem dX9_isWrong_6 : decode cX9_isWrong 6 = .ok (.if_icmp .ne 15, 3) := by decide +kernel
theorem dX9_isWrong_9 : decode cX9_isWrong 9 = .ok (.aload_n 0, 1) := by decide +kernel
theorem dX9_isWrong_10 : decode cX9_isWrong 10 = .ok (.iload_n 1, 1) := by decide +kernel
theorem dX9_isWrong_11 : decode cX9_isWrong 11 = .ok (.invokevirtual 49, 3) := by decide +kernel
theorem dX9_isWrong_14 : decode cX9_isWrong 14 = .ok (.ifCond .eq 7, 3) := by decide +kernel
theorem dX9_isWrong_17 : decode cX9_isWrong 17 = .ok (.iconst 1, 1) := by decide +kernel
theorem dX9_isWrong_18 : decode cX9_isWrong 18 = .ok (.goto 4, 3) := by decide +kernel
theorem dX9_isWrong_21 : decode cX9_isWrong 21 = .ok (.iconst 0, 1) := by decide +kernel
theorem dX9_isWrong_22 : decode cX9_isWrong 22 = .ok (.ireturn, 1) := by decide +kernel
theorem dX9_handTo_0 : decode cX9_handTo 0 = .ok (.aload_n 0, 1) := by decide +kernel
theorem dX9_handTo_1 : decode cX9_handTo 1 = .ok (.getfield 9, 3) := by decide +kernel
theorem dX9_handTo_4 : decode cX9_handTo 4 = .ok (.iload_n 1, 1) := by decide +kernel
theorem dX9_handTo_5 : decode cX9_handTo 5 = .ok (.iconst 1, 1) := by decide +kernel
theorem dX9_handTo_6 : decode cX9_handTo 6 = .ok (.invokestatic 52, 3) := by decide +kernel
theorem dX9_handTo_9 : decode cX9_handTo 9 = .ok (.aload_n 0, 1) := by decide +kernel
theorem dX9_handTo_10 : decode cX9_handTo 10 = .ok (.getfield 15, 3) := by decide +kernel
theorem dX9_handTo_13 : decode cX9_handTo 13 = .ok (.iload_n 1, 1) := by decide +kernel
theorem dX9_handTo_14 : decode cX9_handTo 14 = .ok (.iload_n 2, 1) := by decide +kernel
theorem dX9_handTo_15 : decode cX9_handTo 15 = .ok (.invokestatic 52, 3) := by decide +kernel
theorem dX9_handTo_18 : decode cX9_handTo 18 = .ok (.aload_n 0, 1) := by decide +kernel
theorem dX9_handTo_19 : decode cX9_handTo 19 = .ok (.getfield 18, 3) := by decide +kernel
theorem dX9_handTo_22 : decode cX9_handTo 22 = .ok (.iload_n 1, 1) := by decide +kernel
theorem dX9_handTo_23 : decode cX9_handTo 23 = .ok (.iload_n 3, 1) := by decide +kernel
theorem dX9_handTo_24 : decode cX9_handTo 24 = .ok (.invokestatic 52, 3) := by decide +kernel
theorem dX9_handTo_27 : decode cX9_handTo 27 = .ok (.return_, 1) := by decide +kernel
theorem dX9_handBack_0 : decode cX9_handBack 0 = .ok (.aload_n 0, 1) := by decide +kernel
theorem dX9_handBack_1 : decode cX9_handBack 1 = .ok (.getfield 9, 3) := by decide +kernel
theorem dX9_handBack_4 : decode cX9_handBack 4 = .ok (.iload_n 1, 1) := by decide +kernel
theorem dX9_handBack_5 : decode cX9_handBack 5 = .ok (.iconst 0, 1) := by decide +kernel
theorem dX9_handBack_6 : decode cX9_handBack 6 = .ok (.invokestatic 52, 3) := by decide +kernel
theorem dX9_handBack_9 : decode cX9_handBack 9 = .ok (.aload_n 0, 1) := by decide +kernel
theorem dX9_handBack_10 : decode cX9_handBack 10 = .ok (.getfield 15, 3) := by decide +kernel
theorem dX9_handBack_13 : decode cX9_handBack 13 = .ok (.iload_n 1, 1) := by decide +kernel
theorem dX9_handBack_14 : decode cX9_handBack 14 = .ok (.bipush (-2), 2) := by decide +kernel
theorem dX9_handBack_16 : decode cX9_handBack 16 = .ok (.invokestatic 52, 3) := by decide +kernel
theorem dX9_handBack_19 : decode cX9_handBack 19 = .ok (.aload_n 0, 1) := by decide +kernel
theorem dX9_handBack_20 : decode cX9_handBack 20 = .ok (.getfield 18, 3) := by decide +kernel
theorem dX9_handBack_23 : decode cX9_handBack 23 = .ok (.iload_n 1, 1) := by decide +kernel
theorem dX9_handBack_24 : decode cX9_handBack 24 = .ok (.bipush (-2), 2) := by decide +kernel
theorem dX9_handBack_26 : decode cX9_handBack 26 = .ok (.invokestatic 52, 3) := by decide +kernel
theorem dX9_handBack_29 : decode cX9_handBack 29 = .ok (.return_, 1) := by decide +kernel
theorem dX9_putInto_0 : decode cX9_putInto 0 = .ok (.aload_n 0, 1) := by decide +kernel
theorem dX9_putInto_1 : decode cX9_putInto 1 = .ok (.getfield 9, 3) := by decide +kernel
theorem dX9_putInto_4 : decode cX9_putInto 4 = .ok (.iload_n 1, 1) := by decide +kernel
theorem dX9_putInto_5 : decode cX9_putInto 5 = .ok (.iconst 2, 1) := by decide +kernel
theorem dX9_putInto_6 : decode cX9_putInto 6 = .ok (.invokestatic 52, 3) := by decide +kernel
theorem dX9_putInto_9 : decode cX9_putInto 9 = .ok (.aload_n 0, 1) := by decide +kernel
theorem dX9_putInto_10 : decode cX9_putInto 10 = .ok (.getfield 21, 3) := by decide +kernel
theorem dX9_putInto_13 : decode cX9_putInto 13 = .ok (.iload_n 1, 1) := by decide +kernel
theorem dX9_putInto_14 : decode cX9_putInto 14 = .ok (.iload_n 2, 1) := by decide +kernel
theorem dX9_putInto_15 : decode cX9_putInto 15 = .ok (.invokestatic 52, 3) := by decide +kernel
theorem dX9_putInto_18 : decode cX9_putInto 18 = .ok (.aload_n 0, 1) := by decide +kernel
theorem dX9_putInto_19 : decode cX9_putInto 19 = .ok (.getfield 24, 3) := by decide +kernel
theorem dX9_putInto_22 : decode cX9_putInto 22 = .ok (.iload_n 1, 1) := by decide +kernel
theorem dX9_putInto_23 : decode cX9_putInto 23 = .ok (.iload_n 3, 1) := by decide +kernel
theorem dX9_putInto_24 : decode cX9_putInto 24 = .ok (.invokestatic 52, 3) := by decide +kernel
theorem dX9_putInto_27 : decode cX9_putInto 27 = .ok (.aload_n 0, 1) := by decide +kernel
theorem dX9_putInto_28 : decode cX9_putInto 28 = .ok (.getfield 27, 3) := by decide +kernel
theorem dX9_putInto_31 : decode cX9_putInto 31 = .ok (.iload_n 1, 1) := by decide +kernel
theorem dX9_putInto_32 : decode cX9_putInto 32 = .ok (.iload 4, 2) := by decide +kernel
theorem dX9_putInto_34 : decode cX9_putInto 34 = .ok (.invokestatic 52, 3) := by decide +kernel
theorem dX9_putInto_37 : decode cX9_putInto 37 = .ok (.return_, 1) := by decide +kernel
theorem dX9_strike_0 : decode cX9_strike 0 = .ok (.aload_n 0, 1) := by decide +kernel
theorem dX9_strike_1 : decode cX9_strike 1 = .ok (.getfield 9, 3) := by decide +kernel
theorem dX9_strike_4 : decode cX9_strike 4 = .ok (.iload_n 1, 1) := by decide +kernel
theorem dX9_strike_5 : decode cX9_strike 5 = .ok (.iconst 3, 1) := by decide +kernel
theorem dX9_strike_6 : decode cX9_strike 6 = .ok (.invokestatic 52, 3) := by decide +kernel
theorem dX9_strike_9 : decode cX9_strike 9 = .ok (.return_, 1) := by decide +kernel
theorem dX9_takeOut_0 : decode cX9_takeOut 0 = .ok (.iconst 0, 1) := by decide +kernel
theorem dX9_takeOut_1 : decode cX9_takeOut 1 = .ok (.istore_n 1, 1) := by decide +kernel
theorem dX9_takeOut_2 : decode cX9_takeOut 2 = .ok (.iload_n 1, 1) := by decide +kernel
theorem dX9_takeOut_3 : decode cX9_takeOut 3 = .ok (.bipush 20, 2) := by decide +kernel
theorem dX9_takeOut_5 : decode cX9_takeOut 5 = .ok (.if_icmp .ge 61, 3) := by decide +kernel
theorem dX9_takeOut_8 : decode cX9_takeOut 8 = .ok (.aload_n 0, 1) := by decide +kernel
theorem dX9_takeOut_9 : decode cX9_takeOut 9 = .ok (.getfield 9, 3) := by decide +kernel
theorem dX9_takeOut_12 : decode cX9_takeOut 12 = .ok (.iload_n 1, 1) := by decide +kernel
theorem dX9_takeOut_13 : decode cX9_takeOut 13 = .ok (.aload_n 0, 1) := by decide +kernel
theorem dX9_takeOut_14 : decode cX9_takeOut 14 = .ok (.iload_n 1, 1) := by decide +kernel
theorem dX9_takeOut_15 : decode cX9_takeOut 15 = .ok (.invokevirtual 46, 3) := by decide +kernel
theorem dX9_takeOut_18 : decode cX9_takeOut 18 = .ok (.bipush (-2), 2) := by decide +kernel
theorem dX9_takeOut_20 : decode cX9_takeOut 20 = .ok (.if_icmp .ne 7, 3) := by decide +kernel
theorem dX9_takeOut_23 : decode cX9_takeOut 23 = .ok (.iconst 0, 1) := by decide +kernel
theorem dX9_takeOut_24 : decode cX9_takeOut 24 = .ok (.goto 4, 3) := by decide +kernel
theorem dX9_takeOut_27 : decode cX9_takeOut 27 = .ok (.iconst 1, 1) := by decide +kernel
theorem dX9_takeOut_28 : decode cX9_takeOut 28 = .ok (.invokestatic 52, 3) := by decide +kernel
theorem dX9_takeOut_31 : decode cX9_takeOut 31 = .ok (.aload_n 0, 1) := by decide +kernel
theorem dX9_takeOut_32 : decode cX9_takeOut 32 = .ok (.getfield 21, 3) := by decide +kernel
theorem dX9_takeOut_35 : decode cX9_takeOut 35 = .ok (.iload_n 1, 1) := by decide +kernel
theorem dX9_takeOut_36 : decode cX9_takeOut 36 = .ok (.bipush (-2), 2) := by decide +kernel
theorem dX9_takeOut_38 : decode cX9_takeOut 38 = .ok (.invokestatic 52, 3) := by decide +kernel
theorem dX9_takeOut_41 : decode cX9_takeOut 41 = .ok (.aload_n 0, 1) := by decide +kernel
theorem dX9_takeOut_42 : decode cX9_takeOut 42 = .ok (.getfield 24, 3) := by decide +kernel
theorem dX9_takeOut_45 : decode cX9_takeOut 45 = .ok (.iload_n 1, 1) := by decide +kernel
theorem dX9_takeOut_46 : decode cX9_takeOut 46 = .ok (.bipush (-2), 2) := by decide +kernel
theorem dX9_takeOut_48 : decode cX9_takeOut 48 = .ok (.invokestatic 52, 3) := by decide +kernel
theorem dX9_takeOut_51 : decode cX9_takeOut 51 = .ok (.aload_n 0, 1) := by decide +kernel
theorem dX9_takeOut_52 : decode cX9_takeOut 52 = .ok (.getfield 27, 3) := by decide +kernel
theorem dX9_takeOut_55 : decode cX9_takeOut 55 = .ok (.iload_n 1, 1) := by decide +kernel
theorem dX9_takeOut_56 : decode cX9_takeOut 56 = .ok (.iconst 0, 1) := by decide +kernel
theorem dX9_takeOut_57 : decode cX9_takeOut 57 = .ok (.invokestatic 52, 3) := by decide +kernel
theorem dX9_takeOut_60 : decode cX9_takeOut 60 = .ok (.iinc 1 1, 3) := by decide +kernel
theorem dX9_takeOut_63 : decode cX9_takeOut 63 = .ok (.goto (-61), 3) := by decide +kernel
theorem dX9_takeOut_66 : decode cX9_takeOut 66 = .ok (.return_, 1) := by decide +kernel
theorem dX9_countIn_0 : decode cX9_countIn 0 = .ok (.aload_n 0, 1) := by decide +kernel
theorem dX9_countIn_1 : decode cX9_countIn 1 = .ok (.iload_n 1, 1) := by decide +kernel
theorem dX9_countIn_2 : decode cX9_countIn 2 = .ok (.invokevirtual 56, 3) := by decide +kernel
theorem dX9_countIn_5 : decode cX9_countIn 5 = .ok (.invokestatic 59, 3) := by decide +kernel
theorem dX9_countIn_8 : decode cX9_countIn 8 = .ok (.ireturn, 1) := by decide +kernel
theorem dX9_turnout_0 : decode cX9_turnout 0 = .ok (.aload_n 0, 1) := by decide +kernel
theorem dX9_turnout_1 : decode cX9_turnout 1 = .ok (.iconst 2, 1) := by decide +kernel
theorem dX9_turnout_2 : decode cX9_turnout 2 = .ok (.invokevirtual 64, 3) := by decide +kernel
theorem dX9_turnout_5 : decode cX9_turnout 5 = .ok (.ireturn, 1) := by decide +kernel
theorem dX9_struckOnes_0 : decode cX9_struckOnes 0 = .ok (.aload_n 0, 1) := by decide +kernel
theorem dX9_struckOnes_1 : decode cX9_struckOnes 1 = .ok (.iconst 3, 1) := by decide +kernel
theorem dX9_struckOnes_2 : decode cX9_struckOnes 2 = .ok (.invokevirtual 64, 3) := by decide +kernel
theorem dX9_struckOnes_5 : decode cX9_struckOnes 5 = .ok (.ireturn, 1) := by decide +kernel
theorem dX9_countAt_0 : decode cX9_countAt 0 = .ok (.iconst 0, 1) := by decide +kernel
theorem dX9_countAt_1 : decode cX9_countAt 1 = .ok (.istore_n 2, 1) := by decide +kernel
theorem dX9_countAt_2 : decode cX9_countAt 2 = .ok (.iconst 0, 1) := by decide +kernel
theorem dX9_countAt_3 : decode cX9_countAt 3 = .ok (.istore_n 3, 1) := by decide +kernel
theorem dX9_countAt_4 : decode cX9_countAt 4 = .ok (.iload_n 3, 1) := by decide +kernel
theorem dX9_countAt_5 : decode cX9_countAt 5 = .ok (.bipush 20, 2) := by decide +kernel
theorem dX9_countAt_7 : decode cX9_countAt 7 = .ok (.if_icmp .ge 21, 3) := by decide +kernel
theorem dX9_countAt_10 : decode cX9_countAt 10 = .ok (.aload_n 0, 1) := by decide +kernel
theorem dX9_countAt_11 : decode cX9_countAt 11 = .ok (.iload_n 3, 1) := by decide +kernel
theorem dX9_countAt_12 : decode cX9_countAt 12 = .ok (.invokevirtual 42, 3) := by decide +kernel
theorem dX9_countAt_15 : decode cX9_countAt 15 = .ok (.iload_n 1, 1) := by decide +kernel
theorem dX9_countAt_16 : decode cX9_countAt 16 = .ok (.if_icmp .ne 6, 3) := by decide +kernel
theorem dX9_countAt_19 : decode cX9_countAt 19 = .ok (.iinc 2 1, 3) := by decide +kernel
theorem dX9_countAt_22 : decode cX9_countAt 22 = .ok (.iinc 3 1, 3) := by decide +kernel
theorem dX9_countAt_25 : decode cX9_countAt 25 = .ok (.goto (-21), 3) := by decide +kernel
theorem dX9_countAt_28 : decode cX9_countAt 28 = .ok (.iload_n 2, 1) := by decide +kernel
theorem dX9_countAt_29 : decode cX9_countAt 29 = .ok (.ireturn, 1) := by decide +kernel
theorem dX9_laidForOthers_0 : decode cX9_laidForOthers 0 = .ok (.iconst 0, 1) := by decide +kernel
theorem dX9_laidForOthers_1 : decode cX9_laidForOthers 1 = .ok (.istore_n 2, 1) := by decide +kernel
theorem dX9_laidForOthers_2 : decode cX9_laidForOthers 2 = .ok (.iconst 0, 1) := by decide +kernel
theorem dX9_laidForOthers_3 : decode cX9_laidForOthers 3 = .ok (.istore_n 3, 1) := by decide +kernel
theorem dX9_laidForOthers_4 : decode cX9_laidForOthers 4 = .ok (.iload_n 3, 1) := by decide +kernel
theorem dX9_laidForOthers_5 : decode cX9_laidForOthers 5 = .ok (.bipush 20, 2) := by decide +kernel
theorem dX9_laidForOthers_7 : decode cX9_laidForOthers 7 = .ok (.if_icmp .ge 51, 3) := by decide +kernel
theorem dX9_laidForOthers_10 : decode cX9_laidForOthers 10 = .ok (.aload_n 0, 1) := by decide +kernel
theorem dX9_laidForOthers_11 : decode cX9_laidForOthers 11 = .ok (.iload_n 3, 1) := by decide +kernel
theorem dX9_laidForOthers_12 : decode cX9_laidForOthers 12 = .ok (.invokevirtual 42, 3) := by decide +kernel
theorem dX9_laidForOthers_15 : decode cX9_laidForOthers 15 = .ok (.iconst 2, 1) := by decide +kernel
theorem dX9_laidForOthers_16 : decode cX9_laidForOthers 16 = .ok (.if_icmp .eq 12, 3) := by decide +kernel
theorem dX9_laidForOthers_19 : decode cX9_laidForOthers 19 = .ok (.aload_n 0, 1) := by decide +kernel
theorem dX9_laidForOthers_20 : decode cX9_laidForOthers 20 = .ok (.iload_n 3, 1) := by decide +kernel
theorem dX9_laidForOthers_21 : decode cX9_laidForOthers 21 = .ok (.invokevirtual 42, 3) := by decide +kernel
theorem dX9_laidForOthers_24 : decode cX9_laidForOthers 24 = .ok (.iconst 3, 1) := by decide +kernel
theorem dX9_laidForOthers_25 : decode cX9_laidForOthers 25 = .ok (.if_icmp .ne 7, 3) := by decide +kernel
theorem dX9_laidForOthers_28 : decode cX9_laidForOthers 28 = .ok (.iconst 1, 1) := by decide +kernel
theorem dX9_laidForOthers_29 : decode cX9_laidForOthers 29 = .ok (.goto 4, 3) := by decide +kernel
theorem dX9_laidForOthers_32 : decode cX9_laidForOthers 32 = .ok (.iconst 0, 1) := by decide +kernel
theorem dX9_laidForOthers_33 : decode cX9_laidForOthers 33 = .ok (.istore 4, 2) := by decide +kernel
theorem dX9_laidForOthers_35 : decode cX9_laidForOthers 35 = .ok (.iload 4, 2) := by decide +kernel
theorem dX9_laidForOthers_37 : decode cX9_laidForOthers 37 = .ok (.ifCond .eq 15, 3) := by decide +kernel
theorem dX9_laidForOthers_40 : decode cX9_laidForOthers 40 = .ok (.aload_n 0, 1) := by decide +kernel
theorem dX9_laidForOthers_41 : decode cX9_laidForOthers 41 = .ok (.iload_n 3, 1) := by decide +kernel
theorem dX9_laidForOthers_42 : decode cX9_laidForOthers 42 = .ok (.invokevirtual 46, 3) := by decide +kernel
theorem dX9_laidForOthers_45 : decode cX9_laidForOthers 45 = .ok (.iload_n 1, 1) := by decide +kernel
theorem dX9_laidForOthers_46 : decode cX9_laidForOthers 46 = .ok (.if_icmp .ne 6, 3) := by decide +kernel
theorem dX9_laidForOthers_49 : decode cX9_laidForOthers 49 = .ok (.iinc 2 1, 3) := by decide +kernel
theorem dX9_laidForOthers_52 : decode cX9_laidForOthers 52 = .ok (.iinc 3 1, 3) := by decide +kernel
theorem dX9_laidForOthers_55 : decode cX9_laidForOthers 55 = .ok (.goto (-51), 3) := by decide +kernel
theorem dX9_laidForOthers_58 : decode cX9_laidForOthers 58 = .ok (.iload_n 2, 1) := by decide +kernel
theorem dX9_laidForOthers_59 : decode cX9_laidForOthers 59 = .ok (.ireturn, 1) := by decide +kernel
theorem dX9_maskIn_0 : decode cX9_maskIn 0 = .ok (.iconst 0, 1) := by decide +kernel
theorem dX9_maskIn_1 : decode cX9_maskIn 1 = .ok (.istore_n 2, 1) := by decide +kernel
theorem dX9_maskIn_2 : decode cX9_maskIn 2 = .ok (.iconst 0, 1) := by decide +kernel
theorem dX9_maskIn_3 : decode cX9_maskIn 3 = .ok (.istore_n 3, 1) := by decide +kernel
theorem dX9_maskIn_4 : decode cX9_maskIn 4 = .ok (.iload_n 3, 1) := by decide +kernel
theorem dX9_maskIn_5 : decode cX9_maskIn 5 = .ok (.bipush 20, 2) := by decide +kernel
theorem dX9_maskIn_7 : decode cX9_maskIn 7 = .ok (.if_icmp .ge 33, 3) := by decide +kernel
theorem dX9_maskIn_10 : decode cX9_maskIn 10 = .ok (.aload_n 0, 1) := by decide +kernel
theorem dX9_maskIn_11 : decode cX9_maskIn 11 = .ok (.iload_n 3, 1) := by decide +kernel
theorem dX9_maskIn_12 : decode cX9_maskIn 12 = .ok (.invokevirtual 42, 3) := by decide +kernel
theorem dX9_maskIn_15 : decode cX9_maskIn 15 = .ok (.iconst 2, 1) := by decide +kernel
theorem dX9_maskIn_16 : decode cX9_maskIn 16 = .ok (.if_icmp .ne 18, 3) := by decide +kernel
theorem dX9_maskIn_19 : decode cX9_maskIn 19 = .ok (.aload_n 0, 1) := by decide +kernel
theorem dX9_maskIn_20 : decode cX9_maskIn 20 = .ok (.iload_n 3, 1) := by decide +kernel
theorem dX9_maskIn_21 : decode cX9_maskIn 21 = .ok (.invokevirtual 67, 3) := by decide +kernel
theorem dX9_maskIn_24 : decode cX9_maskIn 24 = .ok (.iload_n 1, 1) := by decide +kernel
theorem dX9_maskIn_25 : decode cX9_maskIn 25 = .ok (.if_icmp .ne 9, 3) := by decide +kernel
theorem dX9_maskIn_28 : decode cX9_maskIn 28 = .ok (.iload_n 2, 1) := by decide +kernel
theorem dX9_maskIn_29 : decode cX9_maskIn 29 = .ok (.iconst 1, 1) := by decide +kernel
theorem dX9_maskIn_30 : decode cX9_maskIn 30 = .ok (.iload_n 3, 1) := by decide +kernel
theorem dX9_maskIn_31 : decode cX9_maskIn 31 = .ok (.ishl, 1) := by decide +kernel
theorem dX9_maskIn_32 : decode cX9_maskIn 32 = .ok (.ior, 1) := by decide +kernel
theorem dX9_maskIn_33 : decode cX9_maskIn 33 = .ok (.istore_n 2, 1) := by decide +kernel
theorem dX9_maskIn_34 : decode cX9_maskIn 34 = .ok (.iinc 3 1, 3) := by decide +kernel
theorem dX9_maskIn_37 : decode cX9_maskIn 37 = .ok (.goto (-33), 3) := by decide +kernel
theorem dX9_maskIn_40 : decode cX9_maskIn 40 = .ok (.iload_n 2, 1) := by decide +kernel
theorem dX9_maskIn_41 : decode cX9_maskIn 41 = .ok (.ireturn, 1) := by decide +kernel
theorem dX9_carriedBy_0 : decode cX9_carriedBy 0 = .ok (.iconst 0, 1) := by decide +kernel
theorem dX9_carriedBy_1 : decode cX9_carriedBy 1 = .ok (.istore_n 2, 1) := by decide +kernel
theorem dX9_carriedBy_2 : decode cX9_carriedBy 2 = .ok (.iconst 0, 1) := by decide +kernel
theorem dX9_carriedBy_3 : decode cX9_carriedBy 3 = .ok (.istore_n 3, 1) := by decide +kernel
theorem dX9_carriedBy_4 : decode cX9_carriedBy 4 = .ok (.iload_n 3, 1) := by decide +kernel
theorem dX9_carriedBy_5 : decode cX9_carriedBy 5 = .ok (.bipush 20, 2) := by decide +kernel
theorem dX9_carriedBy_7 : decode cX9_carriedBy 7 = .ok (.if_icmp .ge 33, 3) := by decide +kernel
theorem dX9_carriedBy_10 : decode cX9_carriedBy 10 = .ok (.aload_n 0, 1) := by decide +kernel
theorem dX9_carriedBy_11 : decode cX9_carriedBy 11 = .ok (.iload_n 3, 1) := by decide +kernel
theorem dX9_carriedBy_12 : decode cX9_carriedBy 12 = .ok (.invokevirtual 42, 3) := by decide +kernel
theorem dX9_carriedBy_15 : decode cX9_carriedBy 15 = .ok (.iconst 1, 1) := by decide +kernel
theorem dX9_carriedBy_16 : decode cX9_carriedBy 16 = .ok (.if_icmp .ne 18, 3) := by decide +kernel
theorem dX9_carriedBy_19 : decode cX9_carriedBy 19 = .ok (.aload_n 0, 1) := by decide +kernel
theorem dX9_carriedBy_20 : decode cX9_carriedBy 20 = .ok (.iload_n 3, 1) := by decide +kernel
theorem dX9_carriedBy_21 : decode cX9_carriedBy 21 = .ok (.invokevirtual 46, 3) := by decide +kernel
theorem dX9_carriedBy_24 : decode cX9_carriedBy 24 = .ok (.iload_n 1, 1) := by decide +kernel
theorem dX9_carriedBy_25 : decode cX9_carriedBy 25 = .ok (.if_icmp .ne 9, 3) := by decide +kernel
theorem dX9_carriedBy_28 : decode cX9_carriedBy 28 = .ok (.iload_n 2, 1) := by decide +kernel
theorem dX9_carriedBy_29 : decode cX9_carriedBy 29 = .ok (.iconst 1, 1) := by decide +kernel
theorem dX9_carriedBy_30 : decode cX9_carriedBy 30 = .ok (.iload_n 3, 1) := by decide +kernel
theorem dX9_carriedBy_31 : decode cX9_carriedBy 31 = .ok (.ishl, 1) := by decide +kernel
theorem dX9_carriedBy_32 : decode cX9_carriedBy 32 = .ok (.ior, 1) := by decide +kernel
theorem dX9_carriedBy_33 : decode cX9_carriedBy 33 = .ok (.istore_n 2, 1) := by decide +kernel
theorem dX9_carriedBy_34 : decode cX9_carriedBy 34 = .ok (.iinc 3 1, 3) := by decide +kernel
theorem dX9_carriedBy_37 : decode cX9_carriedBy 37 = .ok (.goto (-33), 3) := by decide +kernel
theorem dX9_carriedBy_40 : decode cX9_carriedBy 40 = .ok (.iload_n 2, 1) := by decide +kernel
theorem dX9_carriedBy_41 : decode cX9_carriedBy 41 = .ok (.ireturn, 1) := by decide +kernel
theorem dX9_wrongMask_0 : decode cX9_wrongMask 0 = .ok (.iconst 0, 1) := by decide +kernel
theorem dX9_wrongMask_1 : decode cX9_wrongMask 1 = .ok (.istore_n 1, 1) := by decide +kernel
theorem dX9_wrongMask_2 : decode cX9_wrongMask 2 = .ok (.iconst 0, 1) := by decide +kernel
theorem dX9_wrongMask_3 : decode cX9_wrongMask 3 = .ok (.istore_n 2, 1) := by decide +kernel
theorem dX9_wrongMask_4 : decode cX9_wrongMask 4 = .ok (.iload_n 2, 1) := by decide +kernel
theorem dX9_wrongMask_5 : decode cX9_wrongMask 5 = .ok (.bipush 20, 2) := by decide +kernel
theorem dX9_wrongMask_7 : decode cX9_wrongMask 7 = .ok (.if_icmp .ge 23, 3) := by decide +kernel
theorem dX9_wrongMask_10 : decode cX9_wrongMask 10 = .ok (.aload_n 0, 1) := by decide +kernel
theorem dX9_wrongMask_11 : decode cX9_wrongMask 11 = .ok (.iload_n 2, 1) := by decide +kernel
theorem dX9_wrongMask_12 : decode cX9_wrongMask 12 = .ok (.invokevirtual 70, 3) := by decide +kernel
theorem dX9_wrongMask_15 : decode cX9_wrongMask 15 = .ok (.ifCond .eq 9, 3) := by decide +kernel
theorem dX9_wrongMask_18 : decode cX9_wrongMask 18 = .ok (.iload_n 1, 1) := by decide +kernel
theorem dX9_wrongMask_19 : decode cX9_wrongMask 19 = .ok (.iconst 1, 1) := by decide +kernel
theorem dX9_wrongMask_20 : decode cX9_wrongMask 20 = .ok (.iload_n 2, 1) := by decide +kernel
theorem dX9_wrongMask_21 : decode cX9_wrongMask 21 = .ok (.ishl, 1) := by decide +kernel
theorem dX9_wrongMask_22 : decode cX9_wrongMask 22 = .ok (.ior, 1) := by decide +kernel
theorem dX9_wrongMask_23 : decode cX9_wrongMask 23 = .ok (.istore_n 1, 1) := by decide +kernel
theorem dX9_wrongMask_24 : decode cX9_wrongMask 24 = .ok (.iinc 2 1, 3) := by decide +kernel
theorem dX9_wrongMask_27 : decode cX9_wrongMask 27 = .ok (.goto (-23), 3) := by decide +kernel
theorem dX9_wrongMask_30 : decode cX9_wrongMask 30 = .ok (.iload_n 1, 1) := by decide +kernel
theorem dX9_wrongMask_31 : decode cX9_wrongMask 31 = .ok (.ireturn, 1) := by decide +kernel
theorem dX10_init_0 : decode cX10_init 0 = .ok (.aload_n 0, 1) := by decide +kernel
theorem dX10_init_1 : decode cX10_init 1 = .ok (.invokespecial 3, 3) := by decide +kernel
theorem dX10_init_4 : decode cX10_init 4 = .ok (.aload_n 0, 1) := by decide +kernel
theorem dX10_init_5 : decode cX10_init 5 = .ok (.new 9, 3) := by decide +kernel
theorem dX10_init_8 : decode cX10_init 8 = .ok (.dup, 1) := by decide +kernel
theorem dX10_init_9 : decode cX10_init 9 = .ok (.invokespecial 11, 3) := by decide +kernel
theorem dX10_init_12 : decode cX10_init 12 = .ok (.putfield 12, 3) := by decide +kernel
theorem dX10_init_15 : decode cX10_init 15 = .ok (.aload_n 0, 1) := by decide +kernel
theorem dX10_init_16 : decode cX10_init 16 = .ok (.new 18, 3) := by decide +kernel
theorem dX10_init_19 : decode cX10_init 19 = .ok (.dup, 1) := by decide +kernel
theorem dX10_init_20 : decode cX10_init 20 = .ok (.invokespecial 20, 3) := by decide +kernel
theorem dX10_init_23 : decode cX10_init 23 = .ok (.putfield 21, 3) := by decide +kernel
theorem dX10_init_26 : decode cX10_init 26 = .ok (.aload_n 0, 1) := by decide +kernel
theorem dX10_init_27 : decode cX10_init 27 = .ok (.new 25, 3) := by decide +kernel
theorem dX10_init_30 : decode cX10_init 30 = .ok (.dup, 1) := by decide +kernel
theorem dX10_init_31 : decode cX10_init 31 = .ok (.invokespecial 27, 3) := by decide +kernel
theorem dX10_init_34 : decode cX10_init 34 = .ok (.putfield 28, 3) := by decide +kernel
theorem dX10_init_37 : decode cX10_init 37 = .ok (.return_, 1) := by decide +kernel
theorem dX10_beginTheFirstOne_0 : decode cX10_beginTheFirstOne 0 = .ok (.aload_n 0, 1) := by decide +kernel
theorem dX10_beginTheFirstOne_1 : decode cX10_beginTheFirstOne 1 = .ok (.getfield 12, 3) := by decide +kernel
theorem dX10_beginTheFirstOne_4 : decode cX10_beginTheFirstOne 4 = .ok (.invokevirtual 32, 3) := by decide +kernel
theorem dX10_beginTheFirstOne_7 : decode cX10_beginTheFirstOne 7 = .ok (.aload_n 0, 1) := by decide +kernel
theorem dX10_beginTheFirstOne_8 : decode cX10_beginTheFirstOne 8 = .ok (.getfield 21, 3) := by decide +kernel
theorem dX10_beginTheFirstOne_11 : decode cX10_beginTheFirstOne 11 = .ok (.aload_n 0, 1) := by decide +kernel
theorem dX10_beginTheFirstOne_12 : decode cX10_beginTheFirstOne 12 = .ok (.getfield 12, 3) := by decide +kernel
theorem dX10_beginTheFirstOne_15 : decode cX10_beginTheFirstOne 15 = .ok (.invokevirtual 35, 3) := by decide +kernel
theorem dX10_beginTheFirstOne_18 : decode cX10_beginTheFirstOne 18 = .ok (.return_, 1) := by decide +kernel
theorem dX10_beginAnew_0 : decode cX10_beginAnew 0 = .ok (.aload_n 0, 1) := by decide +kernel
theorem dX10_beginAnew_1 : decode cX10_beginAnew 1 = .ok (.getfield 12, 3) := by decide +kernel
theorem dX10_beginAnew_4 : decode cX10_beginAnew 4 = .ok (.aload_n 1, 1) := by decide +kernel
theorem dX10_beginAnew_5 : decode cX10_beginAnew 5 = .ok (.invokevirtual 39, 3) := by decide +kernel
theorem dX10_beginAnew_8 : decode cX10_beginAnew 8 = .ok (.aload_n 0, 1) := by decide +kernel
theorem dX10_beginAnew_9 : decode cX10_beginAnew 9 = .ok (.getfield 21, 3) := by decide +kernel
theorem dX10_beginAnew_12 : decode cX10_beginAnew 12 = .ok (.aload_n 0, 1) := by decide +kernel
theorem dX10_beginAnew_13 : decode cX10_beginAnew 13 = .ok (.getfield 12, 3) := by decide +kernel
theorem dX10_beginAnew_16 : decode cX10_beginAnew 16 = .ok (.invokevirtual 35, 3) := by decide +kernel
theorem dX10_beginAnew_19 : decode cX10_beginAnew 19 = .ok (.return_, 1) := by decide +kernel
theorem dX10_setOut_0 : decode cX10_setOut 0 = .ok (.aload_n 0, 1) := by decide +kernel
theorem dX10_setOut_1 : decode cX10_setOut 1 = .ok (.getfield 21, 3) := by decide +kernel
theorem dX10_setOut_4 : decode cX10_setOut 4 = .ok (.getfield 42, 3) := by decide +kernel
theorem dX10_setOut_7 : decode cX10_setOut 7 = .ok (.iload_n 2, 1) := by decide +kernel
theorem dX10_setOut_8 : decode cX10_setOut 8 = .ok (.iadd, 1) := by decide +kernel
theorem dX10_setOut_9 : decode cX10_setOut 9 = .ok (.istore_n 3, 1) := by decide +kernel
theorem dX10_setOut_10 : decode cX10_setOut 10 = .ok (.aload_n 0, 1) := by decide +kernel
theorem dX10_setOut_11 : decode cX10_setOut 11 = .ok (.getfield 21, 3) := by decide +kernel
theorem dX10_setOut_14 : decode cX10_setOut 14 = .ok (.getfield 46, 3) := by decide +kernel
theorem dX10_setOut_17 : decode cX10_setOut 17 = .ok (.iload_n 1, 1) := by decide +kernel
theorem dX10_setOut_18 : decode cX10_setOut 18 = .ok (.iload_n 3, 1) := by decide +kernel
theorem dX10_setOut_19 : decode cX10_setOut 19 = .ok (.invokevirtual 50, 3) := by decide +kernel
theorem dX10_setOut_22 : decode cX10_setOut 22 = .ok (.istore 4, 2) := by decide +kernel
theorem dX10_setOut_24 : decode cX10_setOut 24 = .ok (.aload_n 0, 1) := by decide +kernel
theorem dX10_setOut_25 : decode cX10_setOut 25 = .ok (.getfield 21, 3) := by decide +kernel
theorem dX10_setOut_28 : decode cX10_setOut 28 = .ok (.getfield 56, 3) := by decide +kernel
theorem dX10_setOut_31 : decode cX10_setOut 31 = .ok (.aload_n 0, 1) := by decide +kernel
theorem dX10_setOut_32 : decode cX10_setOut 32 = .ok (.getfield 21, 3) := by decide +kernel
theorem dX10_setOut_35 : decode cX10_setOut 35 = .ok (.getfield 42, 3) := by decide +kernel
theorem dX10_setOut_38 : decode cX10_setOut 38 = .ok (.iconst 0, 1) := by decide +kernel
theorem dX10_setOut_39 : decode cX10_setOut 39 = .ok (.iload_n 1, 1) := by decide +kernel
theorem dX10_setOut_40 : decode cX10_setOut 40 = .ok (.iload_n 3, 1) := by decide +kernel
theorem dX10_setOut_41 : decode cX10_setOut 41 = .ok (.invokevirtual 60, 3) := by decide +kernel
theorem dX10_setOut_44 : decode cX10_setOut 44 = .ok (.iload 4, 2) := by decide +kernel
theorem dX10_setOut_46 : decode cX10_setOut 46 = .ok (.ireturn, 1) := by decide +kernel
theorem dX10_bringHome_0 : decode cX10_bringHome 0 = .ok (.aload_n 0, 1) := by decide +kernel
theorem dX10_bringHome_1 : decode cX10_bringHome 1 = .ok (.getfield 21, 3) := by decide +kernel
theorem dX10_bringHome_4 : decode cX10_bringHome 4 = .ok (.getfield 46, 3) := by decide +kernel
theorem dX10_bringHome_7 : decode cX10_bringHome 7 = .ok (.iload_n 1, 1) := by decide +kernel
theorem dX10_bringHome_8 : decode cX10_bringHome 8 = .ok (.invokevirtual 66, 3) := by decide +kernel
theorem dX10_bringHome_11 : decode cX10_bringHome 11 = .ok (.istore_n 2, 1) := by decide +kernel
theorem dX10_bringHome_12 : decode cX10_bringHome 12 = .ok (.aload_n 0, 1) := by decide +kernel
theorem dX10_bringHome_13 : decode cX10_bringHome 13 = .ok (.getfield 21, 3) := by decide +kernel
theorem dX10_bringHome_16 : decode cX10_bringHome 16 = .ok (.getfield 56, 3) := by decide +kernel
theorem dX10_bringHome_19 : decode cX10_bringHome 19 = .ok (.aload_n 0, 1) := by decide +kernel
theorem dX10_bringHome_20 : decode cX10_bringHome 20 = .ok (.getfield 21, 3) := by decide +kernel
theorem dX10_bringHome_23 : decode cX10_bringHome 23 = .ok (.getfield 42, 3) := by decide +kernel
theorem dX10_bringHome_26 : decode cX10_bringHome 26 = .ok (.iconst 1, 1) := by decide +kernel
theorem dX10_bringHome_27 : decode cX10_bringHome 27 = .ok (.iload_n 1, 1) := by decide +kernel
theorem dX10_bringHome_28 : decode cX10_bringHome 28 = .ok (.iload_n 2, 1) := by decide +kernel
theorem dX10_bringHome_29 : decode cX10_bringHome 29 = .ok (.invokevirtual 60, 3) := by decide +kernel
theorem dX10_bringHome_32 : decode cX10_bringHome 32 = .ok (.iload_n 2, 1) := by decide +kernel
theorem dX10_bringHome_33 : decode cX10_bringHome 33 = .ok (.ireturn, 1) := by decide +kernel
theorem dX10_letDaysPass_0 : decode cX10_letDaysPass 0 = .ok (.iconst 0, 1) := by decide +kernel
theorem dX10_letDaysPass_1 : decode cX10_letDaysPass 1 = .ok (.istore_n 2, 1) := by decide +kernel
theorem dX10_letDaysPass_2 : decode cX10_letDaysPass 2 = .ok (.iconst 0, 1) := by decide +kernel
theorem dX10_letDaysPass_3 : decode cX10_letDaysPass 3 = .ok (.istore_n 3, 1) := by decide +kernel
theorem dX10_letDaysPass_4 : decode cX10_letDaysPass 4 = .ok (.iload_n 3, 1) := by decide +kernel
theorem dX10_letDaysPass_5 : decode cX10_letDaysPass 5 = .ok (.iload_n 1, 1) := by decide +kernel
theorem dX10_letDaysPass_6 : decode cX10_letDaysPass 6 = .ok (.if_icmp .ge 39, 3) := by decide +kernel
theorem dX10_letDaysPass_9 : decode cX10_letDaysPass 9 = .ok (.aload_n 0, 1) := by decide +kernel
theorem dX10_letDaysPass_10 : decode cX10_letDaysPass 10 = .ok (.getfield 21, 3) := by decide +kernel
theorem dX10_letDaysPass_13 : decode cX10_letDaysPass 13 = .ok (.dup, 1) := by decide +kernel
theorem dX10_letDaysPass_14 : decode cX10_letDaysPass 14 = .ok (.getfield 42, 3) := by decide +kernel
theorem dX10_letDaysPass_17 : decode cX10_letDaysPass 17 = .ok (.iconst 1, 1) := by decide +kernel
theorem dX10_letDaysPass_18 : decode cX10_letDaysPass 18 = .ok (.iadd, 1) := by decide +kernel
theorem dX10_letDaysPass_19 : decode cX10_letDaysPass 19 = .ok (.putfield 42, 3) := by decide +kernel
theorem dX10_letDaysPass_22 : decode cX10_letDaysPass 22 = .ok (.aload_n 0, 1) := by decide +kernel
theorem dX10_letDaysPass_23 : decode cX10_letDaysPass 23 = .ok (.getfield 21, 3) := by decide +kernel
theorem dX10_letDaysPass_26 : decode cX10_letDaysPass 26 = .ok (.getfield 46, 3) := by decide +kernel
theorem dX10_letDaysPass_29 : decode cX10_letDaysPass 29 = .ok (.invokevirtual 70, 3) := by decide +kernel
theorem dX10_letDaysPass_32 : decode cX10_letDaysPass 32 = .ok (.iload_n 2, 1) := by decide +kernel
theorem dX10_letDaysPass_33 : decode cX10_letDaysPass 33 = .ok (.aload_n 0, 1) := by decide +kernel
theorem dX10_letDaysPass_34 : decode cX10_letDaysPass 34 = .ok (.invokevirtual 73, 3) := by decide +kernel
theorem dX10_letDaysPass_37 : decode cX10_letDaysPass 37 = .ok (.iadd, 1) := by decide +kernel
theorem dX10_letDaysPass_38 : decode cX10_letDaysPass 38 = .ok (.istore_n 2, 1) := by decide +kernel
theorem dX10_letDaysPass_39 : decode cX10_letDaysPass 39 = .ok (.iinc 3 1, 3) := by decide +kernel
theorem dX10_letDaysPass_42 : decode cX10_letDaysPass 42 = .ok (.goto (-38), 3) := by decide +kernel
theorem dX10_letDaysPass_45 : decode cX10_letDaysPass 45 = .ok (.iload_n 2, 1) := by decide +kernel
theorem dX10_letDaysPass_46 : decode cX10_letDaysPass 46 = .ok (.ireturn, 1) := by decide +kernel
theorem dX10_bringHomeTodays_0 : decode cX10_bringHomeTodays 0 = .ok (.iconst 0, 1) := by decide +kernel
theorem dX10_bringHomeTodays_1 : decode cX10_bringHomeTodays 1 = .ok (.istore_n 1, 1) := by decide +kernel
theorem dX10_bringHomeTodays_2 : decode cX10_bringHomeTodays 2 = .ok (.iconst 0, 1) := by decide +kernel
theorem dX10_bringHomeTodays_3 : decode cX10_bringHomeTodays 3 = .ok (.istore_n 2, 1) := by decide +kernel
theorem dX10_bringHomeTodays_4 : decode cX10_bringHomeTodays 4 = .ok (.iload_n 2, 1) := by decide +kernel
theorem dX10_bringHomeTodays_5 : decode cX10_bringHomeTodays 5 = .ok (.bipush 6, 2) := by decide +kernel
theorem dX10_bringHomeTodays_7 : decode cX10_bringHomeTodays 7 = .ok (.if_icmp .ge 52, 3) := by decide +kernel
theorem dX10_bringHomeTodays_10 : decode cX10_bringHomeTodays 10 = .ok (.aload_n 0, 1) := by decide +kernel
theorem dX10_bringHomeTodays_11 : decode cX10_bringHomeTodays 11 = .ok (.getfield 21, 3) := by decide +kernel
theorem dX10_bringHomeTodays_14 : decode cX10_bringHomeTodays 14 = .ok (.getfield 46, 3) := by decide +kernel
theorem dX10_bringHomeTodays_17 : decode cX10_bringHomeTodays 17 = .ok (.iload_n 2, 1) := by decide +kernel
theorem dX10_bringHomeTodays_18 : decode cX10_bringHomeTodays 18 = .ok (.invokevirtual 77, 3) := by decide +kernel
theorem dX10_bringHomeTodays_21 : decode cX10_bringHomeTodays 21 = .ok (.ifCond .eq 32, 3) := by decide +kernel
theorem dX10_bringHomeTodays_24 : decode cX10_bringHomeTodays 24 = .ok (.aload_n 0, 1) := by decide +kernel
theorem dX10_bringHomeTodays_25 : decode cX10_bringHomeTodays 25 = .ok (.getfield 21, 3) := by decide +kernel
theorem dX10_bringHomeTodays_28 : decode cX10_bringHomeTodays 28 = .ok (.getfield 46, 3) := by decide +kernel
theorem dX10_bringHomeTodays_31 : decode cX10_bringHomeTodays 31 = .ok (.iload_n 2, 1) := by decide +kernel
theorem dX10_bringHomeTodays_32 : decode cX10_bringHomeTodays 32 = .ok (.invokevirtual 81, 3) := by decide +kernel
theorem dX10_bringHomeTodays_35 : decode cX10_bringHomeTodays 35 = .ok (.aload_n 0, 1) := by decide +kernel
theorem dX10_bringHomeTodays_36 : decode cX10_bringHomeTodays 36 = .ok (.getfield 21, 3) := by decide +kernel
theorem dX10_bringHomeTodays_39 : decode cX10_bringHomeTodays 39 = .ok (.getfield 42, 3) := by decide +kernel
theorem dX10_bringHomeTodays_42 : decode cX10_bringHomeTodays 42 = .ok (.if_icmp .ne 11, 3) := by decide +kernel
theorem dX10_bringHomeTodays_45 : decode cX10_bringHomeTodays 45 = .ok (.iload_n 1, 1) := by decide +kernel
theorem dX10_bringHomeTodays_46 : decode cX10_bringHomeTodays 46 = .ok (.aload_n 0, 1) := by decide +kernel
theorem dX10_bringHomeTodays_47 : decode cX10_bringHomeTodays 47 = .ok (.iload_n 2, 1) := by decide +kernel
theorem dX10_bringHomeTodays_48 : decode cX10_bringHomeTodays 48 = .ok (.invokevirtual 84, 3) := by decide +kernel
theorem dX10_bringHomeTodays_51 : decode cX10_bringHomeTodays 51 = .ok (.iadd, 1) := by decide +kernel
theorem dX10_bringHomeTodays_52 : decode cX10_bringHomeTodays 52 = .ok (.istore_n 1, 1) := by decide +kernel
theorem dX10_bringHomeTodays_53 : decode cX10_bringHomeTodays 53 = .ok (.iinc 2 1, 3) := by decide +kernel
theorem dX10_bringHomeTodays_56 : decode cX10_bringHomeTodays 56 = .ok (.goto (-52), 3) := by decide +kernel
theorem dX10_bringHomeTodays_59 : decode cX10_bringHomeTodays 59 = .ok (.iload_n 1, 1) := by decide +kernel
theorem dX10_bringHomeTodays_60 : decode cX10_bringHomeTodays 60 = .ok (.ireturn, 1) := by decide +kernel
theorem dX10_beginVote_0 : decode cX10_beginVote 0 = .ok (.aload_n 0, 1) := by decide +kernel
theorem dX10_beginVote_1 : decode cX10_beginVote 1 = .ok (.getfield 21, 3) := by decide +kernel
theorem dX10_beginVote_4 : decode cX10_beginVote 4 = .ok (.getfield 87, 3) := by decide +kernel
theorem dX10_beginVote_7 : decode cX10_beginVote 7 = .ok (.invokevirtual 91, 3) := by decide +kernel
theorem dX10_beginVote_10 : decode cX10_beginVote 10 = .ok (.aload_n 0, 1) := by decide +kernel
theorem dX10_beginVote_11 : decode cX10_beginVote 11 = .ok (.getfield 21, 3) := by decide +kernel
theorem dX10_beginVote_14 : decode cX10_beginVote 14 = .ok (.iload_n 1, 1) := by decide +kernel
theorem dX10_beginVote_15 : decode cX10_beginVote 15 = .ok (.invokevirtual 96, 3) := by decide +kernel
theorem dX10_beginVote_18 : decode cX10_beginVote 18 = .ok (.aload_n 0, 1) := by decide +kernel
theorem dX10_beginVote_19 : decode cX10_beginVote 19 = .ok (.getfield 21, 3) := by decide +kernel
theorem dX10_beginVote_22 : decode cX10_beginVote 22 = .ok (.dup, 1) := by decide +kernel
theorem dX10_beginVote_23 : decode cX10_beginVote 23 = .ok (.getfield 100, 3) := by decide +kernel
theorem dX10_beginVote_26 : decode cX10_beginVote 26 = .ok (.iconst 1, 1) := by decide +kernel
theorem dX10_beginVote_27 : decode cX10_beginVote 27 = .ok (.iadd, 1) := by decide +kernel
theorem dX10_beginVote_28 : decode cX10_beginVote 28 = .ok (.putfield 100, 3) := by decide +kernel
theorem dX10_beginVote_31 : decode cX10_beginVote 31 = .ok (.aload_n 0, 1) := by decide +kernel
theorem dX10_beginVote_32 : decode cX10_beginVote 32 = .ok (.getfield 21, 3) := by decide +kernel
theorem dX10_beginVote_35 : decode cX10_beginVote 35 = .ok (.getfield 56, 3) := by decide +kernel
theorem dX10_beginVote_38 : decode cX10_beginVote 38 = .ok (.aload_n 0, 1) := by decide +kernel
theorem dX10_beginVote_39 : decode cX10_beginVote 39 = .ok (.getfield 21, 3) := by decide +kernel
theorem dX10_beginVote_42 : decode cX10_beginVote 42 = .ok (.getfield 42, 3) := by decide +kernel
theorem dX10_beginVote_45 : decode cX10_beginVote 45 = .ok (.iconst 2, 1) := by decide +kernel
theorem dX10_beginVote_46 : decode cX10_beginVote 46 = .ok (.aload_n 0, 1) := by decide +kernel
theorem dX10_beginVote_47 : decode cX10_beginVote 47 = .ok (.invokevirtual 103, 3) := by decide +kernel
theorem dX10_beginVote_50 : decode cX10_beginVote 50 = .ok (.iload_n 1, 1) := by decide +kernel
theorem dX10_beginVote_51 : decode cX10_beginVote 51 = .ok (.invokevirtual 60, 3) := by decide +kernel
theorem dX10_beginVote_54 : decode cX10_beginVote 54 = .ok (.aload_n 0, 1) := by decide +kernel
theorem dX10_beginVote_55 : decode cX10_beginVote 55 = .ok (.invokevirtual 103, 3) := by decide +kernel
theorem dX10_beginVote_58 : decode cX10_beginVote 58 = .ok (.ireturn, 1) := by decide +kernel
theorem dX10_putIntoBasket_0 : decode cX10_putIntoBasket 0 = .ok (.aload_n 0, 1) := by decide +kernel
theorem dX10_putIntoBasket_1 : decode cX10_putIntoBasket 1 = .ok (.getfield 21, 3) := by decide +kernel
theorem dX10_putIntoBasket_4 : decode cX10_putIntoBasket 4 = .ok (.getfield 87, 3) := by decide +kernel
theorem dX10_putIntoBasket_7 : decode cX10_putIntoBasket 7 = .ok (.iload_n 2, 1) := by decide +kernel
theorem dX10_putIntoBasket_8 : decode cX10_putIntoBasket 8 = .ok (.iload_n 3, 1) := by decide +kernel
theorem dX10_putIntoBasket_9 : decode cX10_putIntoBasket 9 = .ok (.aload_n 0, 1) := by decide +kernel
theorem dX10_putIntoBasket_10 : decode cX10_putIntoBasket 10 = .ok (.getfield 21, 3) := by decide +kernel
theorem dX10_putIntoBasket_13 : decode cX10_putIntoBasket 13 = .ok (.getfield 42, 3) := by decide +kernel
theorem dX10_putIntoBasket_16 : decode cX10_putIntoBasket 16 = .ok (.aload_n 0, 1) := by decide +kernel
theorem dX10_putIntoBasket_17 : decode cX10_putIntoBasket 17 = .ok (.iload_n 1, 1) := by decide +kernel
theorem dX10_putIntoBasket_18 : decode cX10_putIntoBasket 18 = .ok (.iload_n 2, 1) := by decide +kernel
theorem dX10_putIntoBasket_19 : decode cX10_putIntoBasket 19 = .ok (.iload_n 3, 1) := by decide +kernel
theorem dX10_putIntoBasket_20 : decode cX10_putIntoBasket 20 = .ok (.invokevirtual 106, 3) := by decide +kernel
theorem dX10_putIntoBasket_23 : decode cX10_putIntoBasket 23 = .ok (.invokevirtual 110, 3) := by decide +kernel
theorem dX10_putIntoBasket_26 : decode cX10_putIntoBasket 26 = .ok (.aload_n 0, 1) := by decide +kernel
theorem dX10_putIntoBasket_27 : decode cX10_putIntoBasket 27 = .ok (.getfield 21, 3) := by decide +kernel
theorem dX10_putIntoBasket_30 : decode cX10_putIntoBasket 30 = .ok (.dup, 1) := by decide +kernel
theorem dX10_putIntoBasket_31 : decode cX10_putIntoBasket 31 = .ok (.getfield 113, 3) := by decide +kernel
theorem dX10_putIntoBasket_34 : decode cX10_putIntoBasket 34 = .ok (.iconst 1, 1) := by decide +kernel
theorem dX10_putIntoBasket_35 : decode cX10_putIntoBasket 35 = .ok (.iadd, 1) := by decide +kernel
theorem dX10_putIntoBasket_36 : decode cX10_putIntoBasket 36 = .ok (.putfield 113, 3) := by decide +kernel
theorem dX10_putIntoBasket_39 : decode cX10_putIntoBasket 39 = .ok (.aload_n 0, 1) := by decide +kernel
theorem dX10_putIntoBasket_40 : decode cX10_putIntoBasket 40 = .ok (.getfield 21, 3) := by decide +kernel
theorem dX10_putIntoBasket_43 : decode cX10_putIntoBasket 43 = .ok (.getfield 56, 3) := by decide +kernel
theorem dX10_putIntoBasket_46 : decode cX10_putIntoBasket 46 = .ok (.aload_n 0, 1) := by decide +kernel
theorem dX10_putIntoBasket_47 : decode cX10_putIntoBasket 47 = .ok (.getfield 21, 3) := by decide +kernel
theorem dX10_putIntoBasket_50 : decode cX10_putIntoBasket 50 = .ok (.getfield 42, 3) := by decide +kernel
theorem dX10_putIntoBasket_53 : decode cX10_putIntoBasket 53 = .ok (.iconst 3, 1) := by decide +kernel
theorem dX10_putIntoBasket_54 : decode cX10_putIntoBasket 54 = .ok (.iload_n 2, 1) := by decide +kernel
theorem dX10_putIntoBasket_55 : decode cX10_putIntoBasket 55 = .ok (.iload_n 3, 1) := by decide +kernel
theorem dX10_putIntoBasket_56 : decode cX10_putIntoBasket 56 = .ok (.invokevirtual 60, 3) := by decide +kernel
theorem dX10_putIntoBasket_59 : decode cX10_putIntoBasket 59 = .ok (.aload_n 0, 1) := by decide +kernel
theorem dX10_putIntoBasket_60 : decode cX10_putIntoBasket 60 = .ok (.getfield 21, 3) := by decide +kernel
theorem dX10_putIntoBasket_63 : decode cX10_putIntoBasket 63 = .ok (.getfield 87, 3) := by decide +kernel
theorem dX10_putIntoBasket_66 : decode cX10_putIntoBasket 66 = .ok (.iload_n 3, 1) := by decide +kernel
theorem dX10_putIntoBasket_67 : decode cX10_putIntoBasket 67 = .ok (.invokevirtual 116, 3) := by decide +kernel
theorem dX10_putIntoBasket_70 : decode cX10_putIntoBasket 70 = .ok (.ireturn, 1) := by decide +kernel
theorem dX10_judge_0 : decode cX10_judge 0 = .ok (.aload_n 0, 1) := by decide +kernel
theorem dX10_judge_1 : decode cX10_judge 1 = .ok (.getfield 21, 3) := by decide +kernel
theorem dX10_judge_4 : decode cX10_judge 4 = .ok (.getfield 87, 3) := by decide +kernel
theorem dX10_judge_7 : decode cX10_judge 7 = .ok (.iload_n 2, 1) := by decide +kernel
theorem dX10_judge_8 : decode cX10_judge 8 = .ok (.invokevirtual 119, 3) := by decide +kernel
theorem dX10_judge_11 : decode cX10_judge 11 = .ok (.istore_n 3, 1) := by decide +kernel
theorem dX10_judge_12 : decode cX10_judge 12 = .ok (.iload_n 3, 1) := by decide +kernel
theorem dX10_judge_13 : decode cX10_judge 13 = .ok (.ifCond .ne 46, 3) := by decide +kernel
theorem dX10_judge_16 : decode cX10_judge 16 = .ok (.aload_n 0, 1) := by decide +kernel
theorem dX10_judge_17 : decode cX10_judge 17 = .ok (.getfield 21, 3) := by decide +kernel
theorem dX10_judge_20 : decode cX10_judge 20 = .ok (.getfield 46, 3) := by decide +kernel
theorem dX10_judge_23 : decode cX10_judge 23 = .ok (.iload_n 1, 1) := by decide +kernel
theorem dX10_judge_24 : decode cX10_judge 24 = .ok (.invokevirtual 122, 3) := by decide +kernel
theorem dX10_judge_27 : decode cX10_judge 27 = .ok (.aload_n 0, 1) := by decide +kernel
theorem dX10_judge_28 : decode cX10_judge 28 = .ok (.getfield 21, 3) := by decide +kernel
theorem dX10_judge_31 : decode cX10_judge 31 = .ok (.getfield 56, 3) := by decide +kernel
theorem dX10_judge_34 : decode cX10_judge 34 = .ok (.aload_n 0, 1) := by decide +kernel
theorem dX10_judge_35 : decode cX10_judge 35 = .ok (.getfield 21, 3) := by decide +kernel
theorem dX10_judge_38 : decode cX10_judge 38 = .ok (.getfield 42, 3) := by decide +kernel
theorem dX10_judge_41 : decode cX10_judge 41 = .ok (.iconst 5, 1) := by decide +kernel
theorem dX10_judge_42 : decode cX10_judge 42 = .ok (.iload_n 1, 1) := by decide +kernel
theorem dX10_judge_43 : decode cX10_judge 43 = .ok (.aload_n 0, 1) := by decide +kernel
theorem dX10_judge_44 : decode cX10_judge 44 = .ok (.getfield 21, 3) := by decide +kernel
theorem dX10_judge_47 : decode cX10_judge 47 = .ok (.getfield 46, 3) := by decide +kernel
theorem dX10_judge_50 : decode cX10_judge 50 = .ok (.iload_n 1, 1) := by decide +kernel
theorem dX10_judge_51 : decode cX10_judge 51 = .ok (.invokevirtual 125, 3) := by decide +kernel
theorem dX10_judge_54 : decode cX10_judge 54 = .ok (.invokevirtual 60, 3) := by decide +kernel
theorem dX10_judge_57 : decode cX10_judge 57 = .ok (.iconst 0, 1) := by decide +kernel
theorem dX10_judge_58 : decode cX10_judge 58 = .ok (.ireturn, 1) := by decide +kernel
theorem dX10_judge_59 : decode cX10_judge 59 = .ok (.aload_n 0, 1) := by decide +kernel
theorem dX10_judge_60 : decode cX10_judge 60 = .ok (.invokevirtual 128, 3) := by decide +kernel
theorem dX10_judge_63 : decode cX10_judge 63 = .ok (.istore 4, 2) := by decide +kernel
theorem dX10_judge_65 : decode cX10_judge 65 = .ok (.aload_n 0, 1) := by decide +kernel
theorem dX10_judge_66 : decode cX10_judge 66 = .ok (.iload_n 2, 1) := by decide +kernel
theorem dX10_judge_67 : decode cX10_judge 67 = .ok (.invokevirtual 131, 3) := by decide +kernel
theorem dX10_judge_70 : decode cX10_judge 70 = .ok (.aload_n 0, 1) := by decide +kernel
theorem dX10_judge_71 : decode cX10_judge 71 = .ok (.iload 4, 2) := by decide +kernel
theorem dX10_judge_73 : decode cX10_judge 73 = .ok (.invokevirtual 134, 3) := by decide +kernel
theorem dX10_judge_76 : decode cX10_judge 76 = .ok (.iload_n 3, 1) := by decide +kernel
theorem dX10_judge_77 : decode cX10_judge 77 = .ok (.ireturn, 1) := by decide +kernel
theorem dX10_strikeAllWrong_0 : decode cX10_strikeAllWrong 0 = .ok (.aload_n 0, 1) := by decide +kernel
theorem dX10_strikeAllWrong_1 : decode cX10_strikeAllWrong 1 = .ok (.invokevirtual 128, 3) := by decide +kernel
theorem dX10_strikeAllWrong_4 : decode cX10_strikeAllWrong 4 = .ok (.istore_n 1, 1) := by decide +kernel
theorem dX10_strikeAllWrong_5 : decode cX10_strikeAllWrong 5 = .ok (.iconst 0, 1) := by decide +kernel
theorem dX10_strikeAllWrong_6 : decode cX10_strikeAllWrong 6 = .ok (.istore_n 2, 1) := by decide +kernel
theorem dX10_strikeAllWrong_7 : decode cX10_strikeAllWrong 7 = .ok (.iconst 0, 1) := by decide +kernel
theorem dX10_strikeAllWrong_8 : decode cX10_strikeAllWrong 8 = .ok (.istore_n 3, 1) := by decide +kernel
theorem dX10_strikeAllWrong_9 : decode cX10_strikeAllWrong 9 = .ok (.iload_n 3, 1) := by decide +kernel
theorem dX10_strikeAllWrong_10 : decode cX10_strikeAllWrong 10 = .ok (.bipush 20, 2) := by decide +kernel
theorem dX10_strikeAllWrong_12 : decode cX10_strikeAllWrong 12 = .ok (.if_icmp .ge 34, 3) := by decide +kernel
theorem dX10_strikeAllWrong_15 : decode cX10_strikeAllWrong 15 = .ok (.aload_n 0, 1) := by decide +kernel
theorem dX10_strikeAllWrong_16 : decode cX10_strikeAllWrong 16 = .ok (.getfield 21, 3) := by decide +kernel
theorem dX10_strikeAllWrong_19 : decode cX10_strikeAllWrong 19 = .ok (.getfield 87, 3) := by decide +kernel
theorem dX10_strikeAllWrong_22 : decode cX10_strikeAllWrong 22 = .ok (.iload_n 3, 1) := by decide +kernel
theorem dX10_strikeAllWrong_23 : decode cX10_strikeAllWrong 23 = .ok (.invokevirtual 137, 3) := by decide +kernel
theorem dX10_strikeAllWrong_26 : decode cX10_strikeAllWrong 26 = .ok (.ifCond .ne 6, 3) := by decide +kernel
theorem dX10_strikeAllWrong_29 : decode cX10_strikeAllWrong 29 = .ok (.goto 11, 3) := by decide +kernel
theorem dX10_strikeAllWrong_32 : decode cX10_strikeAllWrong 32 = .ok (.aload_n 0, 1) := by decide +kernel
theorem dX10_strikeAllWrong_33 : decode cX10_strikeAllWrong 33 = .ok (.iload_n 3, 1) := by decide +kernel
theorem dX10_strikeAllWrong_34 : decode cX10_strikeAllWrong 34 = .ok (.invokevirtual 131, 3) := by decide +kernel
theorem dX10_strikeAllWrong_37 : decode cX10_strikeAllWrong 37 = .ok (.iinc 2 1, 3) := by decide +kernel
theorem dX10_strikeAllWrong_40 : decode cX10_strikeAllWrong 40 = .ok (.iinc 3 1, 3) := by decide +kernel
theorem dX10_strikeAllWrong_43 : decode cX10_strikeAllWrong 43 = .ok (.goto (-34), 3) := by decide +kernel
theorem dX10_strikeAllWrong_46 : decode cX10_strikeAllWrong 46 = .ok (.aload_n 0, 1) := by decide +kernel
theorem dX10_strikeAllWrong_47 : decode cX10_strikeAllWrong 47 = .ok (.getfield 21, 3) := by decide +kernel
theorem dX10_strikeAllWrong_50 : decode cX10_strikeAllWrong 50 = .ok (.dup, 1) := by decide +kernel
theorem dX10_strikeAllWrong_51 : decode cX10_strikeAllWrong 51 = .ok (.getfield 140, 3) := by decide +kernel
theorem dX10_strikeAllWrong_54 : decode cX10_strikeAllWrong 54 = .ok (.iconst 1, 1) := by decide +kernel
theorem dX10_strikeAllWrong_55 : decode cX10_strikeAllWrong 55 = .ok (.iadd, 1) := by decide +kernel
theorem dX10_strikeAllWrong_56 : decode cX10_strikeAllWrong 56 = .ok (.putfield 140, 3) := by decide +kernel
theorem dX10_strikeAllWrong_59 : decode cX10_strikeAllWrong 59 = .ok (.aload_n 0, 1) := by decide +kernel
theorem dX10_strikeAllWrong_60 : decode cX10_strikeAllWrong 60 = .ok (.iload_n 1, 1) := by decide +kernel
theorem dX10_strikeAllWrong_61 : decode cX10_strikeAllWrong 61 = .ok (.invokevirtual 134, 3) := by decide +kernel
theorem dX10_strikeAllWrong_64 : decode cX10_strikeAllWrong 64 = .ok (.iload_n 2, 1) := by decide +kernel
theorem dX10_strikeAllWrong_65 : decode cX10_strikeAllWrong 65 = .ok (.ireturn, 1) := by decide +kernel
theorem dX10_strike_0 : decode cX10_strike 0 = .ok (.aload_n 0, 1) := by decide +kernel
theorem dX10_strike_1 : decode cX10_strike 1 = .ok (.getfield 21, 3) := by decide +kernel
theorem dX10_strike_4 : decode cX10_strike 4 = .ok (.getfield 87, 3) := by decide +kernel
theorem dX10_strike_7 : decode cX10_strike 7 = .ok (.iload_n 1, 1) := by decide +kernel
theorem dX10_strike_8 : decode cX10_strike 8 = .ok (.invokevirtual 143, 3) := by decide +kernel
theorem dX10_strike_11 : decode cX10_strike 11 = .ok (.aload_n 0, 1) := by decide +kernel
theorem dX10_strike_12 : decode cX10_strike 12 = .ok (.getfield 21, 3) := by decide +kernel
theorem dX10_strike_15 : decode cX10_strike 15 = .ok (.getfield 56, 3) := by decide +kernel
theorem dX10_strike_18 : decode cX10_strike 18 = .ok (.aload_n 0, 1) := by decide +kernel
theorem dX10_strike_19 : decode cX10_strike 19 = .ok (.getfield 21, 3) := by decide +kernel
theorem dX10_strike_22 : decode cX10_strike 22 = .ok (.getfield 42, 3) := by decide +kernel
theorem dX10_strike_25 : decode cX10_strike 25 = .ok (.iconst 4, 1) := by decide +kernel
theorem dX10_strike_26 : decode cX10_strike 26 = .ok (.iload_n 1, 1) := by decide +kernel
theorem dX10_strike_27 : decode cX10_strike 27 = .ok (.aload_n 0, 1) := by decide +kernel
theorem dX10_strike_28 : decode cX10_strike 28 = .ok (.getfield 21, 3) := by decide +kernel
theorem dX10_strike_31 : decode cX10_strike 31 = .ok (.getfield 87, 3) := by decide +kernel
theorem dX10_strike_34 : decode cX10_strike 34 = .ok (.iload_n 1, 1) := by decide +kernel
theorem dX10_strike_35 : decode cX10_strike 35 = .ok (.invokevirtual 119, 3) := by decide +kernel
theorem dX10_strike_38 : decode cX10_strike 38 = .ok (.invokevirtual 60, 3) := by decide +kernel
theorem dX10_strike_41 : decode cX10_strike 41 = .ok (.return_, 1) := by decide +kernel
theorem dX10_correctResult_0 : decode cX10_correctResult 0 = .ok (.aload_n 0, 1) := by decide +kernel
theorem dX10_correctResult_1 : decode cX10_correctResult 1 = .ok (.getfield 21, 3) := by decide +kernel
theorem dX10_correctResult_4 : decode cX10_correctResult 4 = .ok (.getfield 144, 3) := by decide +kernel
theorem dX10_correctResult_7 : decode cX10_correctResult 7 = .ok (.ifCond .eq 4, 3) := by decide +kernel
theorem dX10_correctResult_10 : decode cX10_correctResult 10 = .ok (.return_, 1) := by decide +kernel
theorem dX10_correctResult_11 : decode cX10_correctResult 11 = .ok (.aload_n 0, 1) := by decide +kernel
theorem dX10_correctResult_12 : decode cX10_correctResult 12 = .ok (.aload_n 0, 1) := by decide +kernel
theorem dX10_correctResult_13 : decode cX10_correctResult 13 = .ok (.getfield 21, 3) := by decide +kernel
theorem dX10_correctResult_16 : decode cX10_correctResult 16 = .ok (.getfield 148, 3) := by decide +kernel
theorem dX10_correctResult_19 : decode cX10_correctResult 19 = .ok (.invokevirtual 151, 3) := by decide +kernel
theorem dX10_correctResult_22 : decode cX10_correctResult 22 = .ok (.istore_n 2, 1) := by decide +kernel
theorem dX10_correctResult_23 : decode cX10_correctResult 23 = .ok (.aload_n 0, 1) := by decide +kernel
theorem dX10_correctResult_24 : decode cX10_correctResult 24 = .ok (.getfield 21, 3) := by decide +kernel
theorem dX10_correctResult_27 : decode cX10_correctResult 27 = .ok (.getfield 154, 3) := by decide +kernel
theorem dX10_correctResult_30 : decode cX10_correctResult 30 = .ok (.aload_n 0, 1) := by decide +kernel
theorem dX10_correctResult_31 : decode cX10_correctResult 31 = .ok (.invokevirtual 103, 3) := by decide +kernel
theorem dX10_correctResult_34 : decode cX10_correctResult 34 = .ok (.iconst 1, 1) := by decide +kernel
theorem dX10_correctResult_35 : decode cX10_correctResult 35 = .ok (.aload_n 0, 1) := by decide +kernel
theorem dX10_correctResult_36 : decode cX10_correctResult 36 = .ok (.getfield 21, 3) := by decide +kernel
theorem dX10_correctResult_39 : decode cX10_correctResult 39 = .ok (.getfield 87, 3) := by decide +kernel
theorem dX10_correctResult_42 : decode cX10_correctResult 42 = .ok (.invokevirtual 157, 3) := by decide +kernel
theorem dX10_correctResult_45 : decode cX10_correctResult 45 = .ok (.invokevirtual 160, 3) := by decide +kernel
theorem dX10_correctResult_48 : decode cX10_correctResult 48 = .ok (.aload_n 0, 1) := by decide +kernel
theorem dX10_correctResult_49 : decode cX10_correctResult 49 = .ok (.getfield 21, 3) := by decide +kernel
theorem dX10_correctResult_52 : decode cX10_correctResult 52 = .ok (.getfield 154, 3) := by decide +kernel
theorem dX10_correctResult_55 : decode cX10_correctResult 55 = .ok (.aload_n 0, 1) := by decide +kernel
theorem dX10_correctResult_56 : decode cX10_correctResult 56 = .ok (.invokevirtual 103, 3) := by decide +kernel
theorem dX10_correctResult_59 : decode cX10_correctResult 59 = .ok (.iconst 3, 1) := by decide +kernel
theorem dX10_correctResult_60 : decode cX10_correctResult 60 = .ok (.iload_n 2, 1) := by decide +kernel
theorem dX10_correctResult_61 : decode cX10_correctResult 61 = .ok (.invokevirtual 160, 3) := by decide +kernel
theorem dX10_correctResult_64 : decode cX10_correctResult 64 = .ok (.iload_n 2, 1) := by decide +kernel
theorem dX10_correctResult_65 : decode cX10_correctResult 65 = .ok (.iload_n 1, 1) := by decide +kernel
theorem dX10_correctResult_66 : decode cX10_correctResult 66 = .ok (.if_icmp .eq 30, 3) := by decide +kernel
theorem dX10_correctResult_69 : decode cX10_correctResult 69 = .ok (.aload_n 0, 1) := by decide +kernel
theorem dX10_correctResult_70 : decode cX10_correctResult 70 = .ok (.getfield 21, 3) := by decide +kernel
theorem dX10_correctResult_73 : decode cX10_correctResult 73 = .ok (.getfield 56, 3) := by decide +kernel
theorem dX10_correctResult_76 : decode cX10_correctResult 76 = .ok (.aload_n 0, 1) := by decide +kernel
theorem dX10_correctResult_77 : decode cX10_correctResult 77 = .ok (.getfield 21, 3) := by decide +kernel
theorem dX10_correctResult_80 : decode cX10_correctResult 80 = .ok (.getfield 42, 3) := by decide +kernel
theorem dX10_correctResult_83 : decode cX10_correctResult 83 = .ok (.bipush 7, 2) := by decide +kernel
theorem dX10_correctResult_85 : decode cX10_correctResult 85 = .ok (.aload_n 0, 1) := by decide +kernel
theorem dX10_correctResult_86 : decode cX10_correctResult 86 = .ok (.invokevirtual 103, 3) := by decide +kernel
theorem dX10_correctResult_89 : decode cX10_correctResult 89 = .ok (.iload_n 2, 1) := by decide +kernel
theorem dX10_correctResult_90 : decode cX10_correctResult 90 = .ok (.invokestatic 164, 3) := by decide +kernel
theorem dX10_correctResult_93 : decode cX10_correctResult 93 = .ok (.invokevirtual 60, 3) := by decide +kernel
theorem dX10_correctResult_96 : decode cX10_correctResult 96 = .ok (.return_, 1) := by decide +kernel
theorem dX10_endVote_0 : decode cX10_endVote 0 = .ok (.aload_n 0, 1) := by decide +kernel
theorem dX10_endVote_1 : decode cX10_endVote 1 = .ok (.getfield 21, 3) := by decide +kernel
theorem dX10_endVote_4 : decode cX10_endVote 4 = .ok (.aload_n 0, 1) := by decide +kernel
theorem dX10_endVote_5 : decode cX10_endVote 5 = .ok (.invokevirtual 167, 3) := by decide +kernel
theorem dX10_endVote_8 : decode cX10_endVote 8 = .ok (.putfield 148, 3) := by decide +kernel
theorem dX10_endVote_11 : decode cX10_endVote 11 = .ok (.aload_n 0, 1) := by decide +kernel
theorem dX10_endVote_12 : decode cX10_endVote 12 = .ok (.getfield 21, 3) := by decide +kernel
theorem dX10_endVote_15 : decode cX10_endVote 15 = .ok (.aload_n 0, 1) := by decide +kernel
theorem dX10_endVote_16 : decode cX10_endVote 16 = .ok (.getfield 21, 3) := by decide +kernel
theorem dX10_endVote_19 : decode cX10_endVote 19 = .ok (.getfield 42, 3) := by decide +kernel
theorem dX10_endVote_22 : decode cX10_endVote 22 = .ok (.putfield 170, 3) := by decide +kernel
theorem dX10_endVote_25 : decode cX10_endVote 25 = .ok (.aload_n 0, 1) := by decide +kernel
theorem dX10_endVote_26 : decode cX10_endVote 26 = .ok (.getfield 21, 3) := by decide +kernel
theorem dX10_endVote_29 : decode cX10_endVote 29 = .ok (.iconst 0, 1) := by decide +kernel
theorem dX10_endVote_30 : decode cX10_endVote 30 = .ok (.putfield 144, 3) := by decide +kernel
theorem dX10_endVote_33 : decode cX10_endVote 33 = .ok (.aload_n 0, 1) := by decide +kernel
theorem dX10_endVote_34 : decode cX10_endVote 34 = .ok (.getfield 21, 3) := by decide +kernel
theorem dX10_endVote_37 : decode cX10_endVote 37 = .ok (.getfield 87, 3) := by decide +kernel
theorem dX10_endVote_40 : decode cX10_endVote 40 = .ok (.invokevirtual 157, 3) := by decide +kernel
theorem dX10_endVote_43 : decode cX10_endVote 43 = .ok (.istore_n 1, 1) := by decide +kernel
theorem dX10_endVote_44 : decode cX10_endVote 44 = .ok (.aload_n 0, 1) := by decide +kernel
theorem dX10_endVote_45 : decode cX10_endVote 45 = .ok (.aload_n 0, 1) := by decide +kernel
theorem dX10_endVote_46 : decode cX10_endVote 46 = .ok (.getfield 21, 3) := by decide +kernel
theorem dX10_endVote_49 : decode cX10_endVote 49 = .ok (.getfield 148, 3) := by decide +kernel
theorem dX10_endVote_52 : decode cX10_endVote 52 = .ok (.invokevirtual 151, 3) := by decide +kernel
theorem dX10_endVote_55 : decode cX10_endVote 55 = .ok (.istore_n 2, 1) := by decide +kernel
theorem dX10_endVote_56 : decode cX10_endVote 56 = .ok (.aload_n 0, 1) := by decide +kernel
theorem dX10_endVote_57 : decode cX10_endVote 57 = .ok (.getfield 21, 3) := by decide +kernel
theorem dX10_endVote_60 : decode cX10_endVote 60 = .ok (.getfield 154, 3) := by decide +kernel
theorem dX10_endVote_63 : decode cX10_endVote 63 = .ok (.aload_n 0, 1) := by decide +kernel
theorem dX10_endVote_64 : decode cX10_endVote 64 = .ok (.getfield 21, 3) := by decide +kernel
theorem dX10_endVote_67 : decode cX10_endVote 67 = .ok (.getfield 42, 3) := by decide +kernel
theorem dX10_endVote_70 : decode cX10_endVote 70 = .ok (.iload_n 1, 1) := by decide +kernel
theorem dX10_endVote_71 : decode cX10_endVote 71 = .ok (.aload_n 0, 1) := by decide +kernel
theorem dX10_endVote_72 : decode cX10_endVote 72 = .ok (.getfield 21, 3) := by decide +kernel
theorem dX10_endVote_75 : decode cX10_endVote 75 = .ok (.getfield 148, 3) := by decide +kernel
theorem dX10_endVote_78 : decode cX10_endVote 78 = .ok (.iload_n 2, 1) := by decide +kernel
theorem dX10_endVote_79 : decode cX10_endVote 79 = .ok (.invokevirtual 60, 3) := by decide +kernel
theorem dX10_endVote_82 : decode cX10_endVote 82 = .ok (.aload_n 0, 1) := by decide +kernel
theorem dX10_endVote_83 : decode cX10_endVote 83 = .ok (.getfield 21, 3) := by decide +kernel
theorem dX10_endVote_86 : decode cX10_endVote 86 = .ok (.getfield 56, 3) := by decide +kernel
theorem dX10_endVote_89 : decode cX10_endVote 89 = .ok (.aload_n 0, 1) := by decide +kernel
theorem dX10_endVote_90 : decode cX10_endVote 90 = .ok (.getfield 21, 3) := by decide +kernel
theorem dX10_endVote_93 : decode cX10_endVote 93 = .ok (.getfield 42, 3) := by decide +kernel
theorem dX10_endVote_96 : decode cX10_endVote 96 = .ok (.bipush 6, 2) := by decide +kernel
theorem dX10_endVote_98 : decode cX10_endVote 98 = .ok (.aload_n 0, 1) := by decide +kernel
theorem dX10_endVote_99 : decode cX10_endVote 99 = .ok (.invokevirtual 103, 3) := by decide +kernel
theorem dX10_endVote_102 : decode cX10_endVote 102 = .ok (.iload_n 2, 1) := by decide +kernel
theorem dX10_endVote_103 : decode cX10_endVote 103 = .ok (.invokestatic 164, 3) := by decide +kernel
theorem dX10_endVote_106 : decode cX10_endVote 106 = .ok (.invokevirtual 60, 3) := by decide +kernel
theorem dX10_endVote_109 : decode cX10_endVote 109 = .ok (.iload_n 1, 1) := by decide +kernel
theorem dX10_endVote_110 : decode cX10_endVote 110 = .ok (.ireturn, 1) := by decide +kernel
theorem dX10_inLog_0 : decode cX10_inLog 0 = .ok (.iload_n 0, 1) := by decide +kernel
theorem dX10_inLog_1 : decode cX10_inLog 1 = .ok (.bipush (-2), 2) := by decide +kernel
theorem dX10_inLog_3 : decode cX10_inLog 3 = .ok (.if_icmp .ne 7, 3) := by decide +kernel
theorem dX10_inLog_6 : decode cX10_inLog 6 = .ok (.iconst (-1), 1) := by decide +kernel
theorem dX10_inLog_7 : decode cX10_inLog 7 = .ok (.goto 4, 3) := by decide +kernel
theorem dX10_inLog_10 : decode cX10_inLog 10 = .ok (.iload_n 0, 1) := by decide +kernel
theorem dX10_inLog_11 : decode cX10_inLog 11 = .ok (.ireturn, 1) := by decide +kernel
theorem dX10_latestVote_0 : decode cX10_latestVote 0 = .ok (.aload_n 0, 1) := by decide +kernel
theorem dX10_latestVote_1 : decode cX10_latestVote 1 = .ok (.getfield 21, 3) := by decide +kernel
theorem dX10_latestVote_4 : decode cX10_latestVote 4 = .ok (.getfield 100, 3) := by decide +kernel
theorem dX10_latestVote_7 : decode cX10_latestVote 7 = .ok (.iconst 1, 1) := by decide +kernel
theorem dX10_latestVote_8 : decode cX10_latestVote 8 = .ok (.isub, 1) := by decide +kernel
theorem dX10_latestVote_9 : decode cX10_latestVote 9 = .ok (.ireturn, 1) := by decide +kernel
theorem dX10_isVoteOpen_0 : decode cX10_isVoteOpen 0 = .ok (.aload_n 0, 1) := by decide +kernel
theorem dX10_isVoteOpen_1 : decode cX10_isVoteOpen 1 = .ok (.getfield 21, 3) := by decide +kernel
theorem dX10_isVoteOpen_4 : decode cX10_isVoteOpen 4 = .ok (.getfield 144, 3) := by decide +kernel
theorem dX10_isVoteOpen_7 : decode cX10_isVoteOpen 7 = .ok (.ireturn, 1) := by decide +kernel
theorem dX10_stateOfVote_0 : decode cX10_stateOfVote 0 = .ok (.aload_n 0, 1) := by decide +kernel
theorem dX10_stateOfVote_1 : decode cX10_stateOfVote 1 = .ok (.getfield 21, 3) := by decide +kernel
theorem dX10_stateOfVote_4 : decode cX10_stateOfVote 4 = .ok (.getfield 100, 3) := by decide +kernel
theorem dX10_stateOfVote_7 : decode cX10_stateOfVote 7 = .ok (.ifCond .ne 5, 3) := by decide +kernel
theorem dX10_stateOfVote_10 : decode cX10_stateOfVote 10 = .ok (.iconst 0, 1) := by decide +kernel
theorem dX10_stateOfVote_11 : decode cX10_stateOfVote 11 = .ok (.ireturn, 1) := by decide +kernel
theorem dX10_stateOfVote_12 : decode cX10_stateOfVote 12 = .ok (.aload_n 0, 1) := by decide +kernel
theorem dX10_stateOfVote_13 : decode cX10_stateOfVote 13 = .ok (.getfield 21, 3) := by decide +kernel
theorem dX10_stateOfVote_16 : decode cX10_stateOfVote 16 = .ok (.getfield 144, 3) := by decide +kernel
theorem dX10_stateOfVote_19 : decode cX10_stateOfVote 19 = .ok (.ifCond .eq 5, 3) := by decide +kernel
theorem dX10_stateOfVote_22 : decode cX10_stateOfVote 22 = .ok (.iconst 1, 1) := by decide +kernel
theorem dX10_stateOfVote_23 : decode cX10_stateOfVote 23 = .ok (.ireturn, 1) := by decide +kernel
theorem dX10_stateOfVote_24 : decode cX10_stateOfVote 24 = .ok (.aload_n 0, 1) := by decide +kernel
theorem dX10_stateOfVote_25 : decode cX10_stateOfVote 25 = .ok (.getfield 21, 3) := by decide +kernel
theorem dX10_stateOfVote_28 : decode cX10_stateOfVote 28 = .ok (.getfield 42, 3) := by decide +kernel
theorem dX10_stateOfVote_31 : decode cX10_stateOfVote 31 = .ok (.aload_n 0, 1) := by decide +kernel
theorem dX10_stateOfVote_32 : decode cX10_stateOfVote 32 = .ok (.getfield 21, 3) := by decide +kernel
theorem dX10_stateOfVote_35 : decode cX10_stateOfVote 35 = .ok (.getfield 170, 3) := by decide +kernel
theorem dX10_stateOfVote_38 : decode cX10_stateOfVote 38 = .ok (.aload_n 0, 1) := by decide +kernel
theorem dX10_stateOfVote_39 : decode cX10_stateOfVote 39 = .ok (.getfield 12, 3) := by decide +kernel
theorem dX10_stateOfVote_42 : decode cX10_stateOfVote 42 = .ok (.bipush 8, 2) := by decide +kernel
theorem dX10_stateOfVote_44 : decode cX10_stateOfVote 44 = .ok (.invokevirtual 173, 3) := by decide +kernel
theorem dX10_stateOfVote_47 : decode cX10_stateOfVote 47 = .ok (.iadd, 1) := by decide +kernel
theorem dX10_stateOfVote_48 : decode cX10_stateOfVote 48 = .ok (.if_icmp .gt 7, 3) := by decide +kernel
theorem dX10_stateOfVote_51 : decode cX10_stateOfVote 51 = .ok (.iconst 2, 1) := by decide +kernel
theorem dX10_stateOfVote_52 : decode cX10_stateOfVote 52 = .ok (.goto 4, 3) := by decide +kernel
theorem dX10_stateOfVote_55 : decode cX10_stateOfVote 55 = .ok (.iconst 3, 1) := by decide +kernel
theorem dX10_stateOfVote_56 : decode cX10_stateOfVote 56 = .ok (.ireturn, 1) := by decide +kernel
theorem dX10_seasonOn_0 : decode cX10_seasonOn 0 = .ok (.aload_n 0, 1) := by decide +kernel
theorem dX10_seasonOn_1 : decode cX10_seasonOn 1 = .ok (.getfield 12, 3) := by decide +kernel
theorem dX10_seasonOn_4 : decode cX10_seasonOn 4 = .ok (.iconst 0, 1) := by decide +kernel
theorem dX10_seasonOn_5 : decode cX10_seasonOn 5 = .ok (.invokevirtual 173, 3) := by decide +kernel
theorem dX10_seasonOn_8 : decode cX10_seasonOn 8 = .ok (.istore_n 2, 1) := by decide +kernel
theorem dX10_seasonOn_9 : decode cX10_seasonOn 9 = .ok (.iload_n 2, 1) := by decide +kernel
theorem dX10_seasonOn_10 : decode cX10_seasonOn 10 = .ok (.iconst 1, 1) := by decide +kernel
theorem dX10_seasonOn_11 : decode cX10_seasonOn 11 = .ok (.if_icmp .ge 7, 3) := by decide +kernel
theorem dX10_seasonOn_14 : decode cX10_seasonOn 14 = .ok (.iconst 0, 1) := by decide +kernel
theorem dX10_seasonOn_15 : decode cX10_seasonOn 15 = .ok (.goto 10, 3) := by decide +kernel
theorem dX10_seasonOn_18 : decode cX10_seasonOn 18 = .ok (.iload_n 1, 1) := by decide +kernel
theorem dX10_seasonOn_19 : decode cX10_seasonOn 19 = .ok (.iload_n 2, 1) := by decide +kernel
theorem dX10_seasonOn_20 : decode cX10_seasonOn 20 = .ok (.idiv, 1) := by decide +kernel
theorem dX10_seasonOn_21 : decode cX10_seasonOn 21 = .ok (.iconst 4, 1) := by decide +kernel
theorem dX10_seasonOn_22 : decode cX10_seasonOn 22 = .ok (.invokestatic 176, 3) := by decide +kernel
theorem dX10_seasonOn_25 : decode cX10_seasonOn 25 = .ok (.ireturn, 1) := by decide +kernel
theorem dX10_homeDayOf_0 : decode cX10_homeDayOf 0 = .ok (.aload_n 0, 1) := by decide +kernel
theorem dX10_homeDayOf_1 : decode cX10_homeDayOf 1 = .ok (.getfield 21, 3) := by decide +kernel
theorem dX10_homeDayOf_4 : decode cX10_homeDayOf 4 = .ok (.getfield 46, 3) := by decide +kernel
theorem dX10_homeDayOf_7 : decode cX10_homeDayOf 7 = .ok (.iload_n 1, 1) := by decide +kernel
theorem dX10_homeDayOf_8 : decode cX10_homeDayOf 8 = .ok (.invokevirtual 181, 3) := by decide +kernel
theorem dX10_homeDayOf_11 : decode cX10_homeDayOf 11 = .ok (.ifCond .ne 11, 3) := by decide +kernel
theorem dX10_homeDayOf_14 : decode cX10_homeDayOf 14 = .ok (.aload_n 0, 1) := by decide +kernel
theorem dX10_homeDayOf_15 : decode cX10_homeDayOf 15 = .ok (.getfield 21, 3) := by decide +kernel
theorem dX10_homeDayOf_18 : decode cX10_homeDayOf 18 = .ok (.getfield 42, 3) := by decide +kernel
theorem dX10_homeDayOf_21 : decode cX10_homeDayOf 21 = .ok (.ireturn, 1) := by decide +kernel
theorem dX10_homeDayOf_22 : decode cX10_homeDayOf 22 = .ok (.aload_n 0, 1) := by decide +kernel
theorem dX10_homeDayOf_23 : decode cX10_homeDayOf 23 = .ok (.getfield 21, 3) := by decide +kernel
theorem dX10_homeDayOf_26 : decode cX10_homeDayOf 26 = .ok (.getfield 46, 3) := by decide +kernel
theorem dX10_homeDayOf_29 : decode cX10_homeDayOf 29 = .ok (.aload_n 0, 1) := by decide +kernel
theorem dX10_homeDayOf_30 : decode cX10_homeDayOf 30 = .ok (.getfield 21, 3) := by decide +kernel
theorem dX10_homeDayOf_33 : decode cX10_homeDayOf 33 = .ok (.getfield 46, 3) := by decide +kernel
theorem dX10_homeDayOf_36 : decode cX10_homeDayOf 36 = .ok (.iload_n 1, 1) := by decide +kernel
theorem dX10_homeDayOf_37 : decode cX10_homeDayOf 37 = .ok (.invokevirtual 184, 3) := by decide +kernel
theorem dX10_homeDayOf_40 : decode cX10_homeDayOf 40 = .ok (.invokevirtual 81, 3) := by decide +kernel
theorem dX10_homeDayOf_43 : decode cX10_homeDayOf 43 = .ok (.ireturn, 1) := by decide +kernel
theorem dX10_needOf_0 : decode cX10_needOf 0 = .ok (.aload_n 0, 1) := by decide +kernel
theorem dX10_needOf_1 : decode cX10_needOf 1 = .ok (.getfield 12, 3) := by decide +kernel
theorem dX10_needOf_4 : decode cX10_needOf 4 = .ok (.iconst 1, 1) := by decide +kernel
theorem dX10_needOf_5 : decode cX10_needOf 5 = .ok (.aload_n 0, 1) := by decide +kernel
theorem dX10_needOf_6 : decode cX10_needOf 6 = .ok (.iload_n 1, 1) := by decide +kernel
theorem dX10_needOf_7 : decode cX10_needOf 7 = .ok (.invokevirtual 187, 3) := by decide +kernel
theorem dX10_needOf_10 : decode cX10_needOf 10 = .ok (.iadd, 1) := by decide +kernel
theorem dX10_needOf_11 : decode cX10_needOf 11 = .ok (.invokevirtual 173, 3) := by decide +kernel
theorem dX10_needOf_14 : decode cX10_needOf 14 = .ok (.istore_n 3, 1) := by decide +kernel
theorem dX10_needOf_15 : decode cX10_needOf 15 = .ok (.iload_n 3, 1) := by decide +kernel
theorem dX10_needOf_16 : decode cX10_needOf 16 = .ok (.aload_n 0, 1) := by decide +kernel
theorem dX10_needOf_17 : decode cX10_needOf 17 = .ok (.getfield 12, 3) := by decide +kernel
theorem dX10_needOf_20 : decode cX10_needOf 20 = .ok (.invokevirtual 190, 3) := by decide +kernel
theorem dX10_needOf_23 : decode cX10_needOf 23 = .ok (.imul, 1) := by decide +kernel
theorem dX10_needOf_24 : decode cX10_needOf 24 = .ok (.bipush 99, 2) := by decide +kernel
theorem dX10_needOf_26 : decode cX10_needOf 26 = .ok (.iadd, 1) := by decide +kernel
theorem dX10_needOf_27 : decode cX10_needOf 27 = .ok (.bipush 100, 2) := by decide +kernel
theorem dX10_needOf_29 : decode cX10_needOf 29 = .ok (.idiv, 1) := by decide +kernel
theorem dX10_needOf_30 : decode cX10_needOf 30 = .ok (.aload_n 0, 1) := by decide +kernel
theorem dX10_needOf_31 : decode cX10_needOf 31 = .ok (.getfield 12, 3) := by decide +kernel
theorem dX10_needOf_34 : decode cX10_needOf 34 = .ok (.iconst 5, 1) := by decide +kernel
theorem dX10_needOf_35 : decode cX10_needOf 35 = .ok (.invokevirtual 173, 3) := by decide +kernel
theorem dX10_needOf_38 : decode cX10_needOf 38 = .ok (.iload_n 2, 1) := by decide +kernel
theorem dX10_needOf_39 : decode cX10_needOf 39 = .ok (.imul, 1) := by decide +kernel
theorem dX10_needOf_40 : decode cX10_needOf 40 = .ok (.isub, 1) := by decide +kernel
theorem dX10_needOf_41 : decode cX10_needOf 41 = .ok (.istore 4, 2) := by decide +kernel
theorem dX10_needOf_43 : decode cX10_needOf 43 = .ok (.iload 4, 2) := by decide +kernel
theorem dX10_needOf_45 : decode cX10_needOf 45 = .ok (.aload_n 0, 1) := by decide +kernel
theorem dX10_needOf_46 : decode cX10_needOf 46 = .ok (.getfield 12, 3) := by decide +kernel
theorem dX10_needOf_49 : decode cX10_needOf 49 = .ok (.bipush 6, 2) := by decide +kernel
theorem dX10_needOf_51 : decode cX10_needOf 51 = .ok (.invokevirtual 173, 3) := by decide +kernel
theorem dX10_needOf_54 : decode cX10_needOf 54 = .ok (.invokestatic 193, 3) := by decide +kernel
theorem dX10_needOf_57 : decode cX10_needOf 57 = .ok (.ireturn, 1) := by decide +kernel
theorem dX10_needBehind_0 : decode cX10_needBehind 0 = .ok (.aload_n 0, 1) := by decide +kernel
theorem dX10_needBehind_1 : decode cX10_needBehind 1 = .ok (.getfield 21, 3) := by decide +kernel
theorem dX10_needBehind_4 : decode cX10_needBehind 4 = .ok (.getfield 42, 3) := by decide +kernel
theorem dX10_needBehind_7 : decode cX10_needBehind 7 = .ok (.iload_n 1, 1) := by decide +kernel
theorem dX10_needBehind_8 : decode cX10_needBehind 8 = .ok (.iadd, 1) := by decide +kernel
theorem dX10_needBehind_9 : decode cX10_needBehind 9 = .ok (.istore_n 2, 1) := by decide +kernel
theorem dX10_needBehind_10 : decode cX10_needBehind 10 = .ok (.aload_n 0, 1) := by decide +kernel
theorem dX10_needBehind_11 : decode cX10_needBehind 11 = .ok (.iload_n 2, 1) := by decide +kernel
theorem dX10_needBehind_12 : decode cX10_needBehind 12 = .ok (.aload_n 0, 1) := by decide +kernel
theorem dX10_needBehind_13 : decode cX10_needBehind 13 = .ok (.getfield 21, 3) := by decide +kernel
theorem dX10_needBehind_16 : decode cX10_needBehind 16 = .ok (.getfield 46, 3) := by decide +kernel
theorem dX10_needBehind_19 : decode cX10_needBehind 19 = .ok (.iload_n 2, 1) := by decide +kernel
theorem dX10_needBehind_20 : decode cX10_needBehind 20 = .ok (.invokevirtual 196, 3) := by decide +kernel
theorem dX10_needBehind_23 : decode cX10_needBehind 23 = .ok (.invokevirtual 199, 3) := by decide +kernel
theorem dX10_needBehind_26 : decode cX10_needBehind 26 = .ok (.ireturn, 1) := by decide +kernel
theorem dX10_needOfVote_0 : decode cX10_needOfVote 0 = .ok (.aload_n 0, 1) := by decide +kernel
theorem dX10_needOfVote_1 : decode cX10_needOfVote 1 = .ok (.getfield 21, 3) := by decide +kernel
theorem dX10_needOfVote_4 : decode cX10_needOfVote 4 = .ok (.getfield 100, 3) := by decide +kernel
theorem dX10_needOfVote_7 : decode cX10_needOfVote 7 = .ok (.ifCond .le 21, 3) := by decide +kernel
theorem dX10_needOfVote_10 : decode cX10_needOfVote 10 = .ok (.aload_n 0, 1) := by decide +kernel
theorem dX10_needOfVote_11 : decode cX10_needOfVote 11 = .ok (.getfield 21, 3) := by decide +kernel
theorem dX10_needOfVote_14 : decode cX10_needOfVote 14 = .ok (.getfield 144, 3) := by decide +kernel
theorem dX10_needOfVote_17 : decode cX10_needOfVote 17 = .ok (.ifCond .ne 11, 3) := by decide +kernel
theorem dX10_needOfVote_20 : decode cX10_needOfVote 20 = .ok (.aload_n 0, 1) := by decide +kernel
theorem dX10_needOfVote_21 : decode cX10_needOfVote 21 = .ok (.getfield 21, 3) := by decide +kernel
theorem dX10_needOfVote_24 : decode cX10_needOfVote 24 = .ok (.getfield 148, 3) := by decide +kernel
theorem dX10_needOfVote_27 : decode cX10_needOfVote 27 = .ok (.ireturn, 1) := by decide +kernel
theorem dX10_needOfVote_28 : decode cX10_needOfVote 28 = .ok (.aload_n 0, 1) := by decide +kernel
theorem dX10_needOfVote_29 : decode cX10_needOfVote 29 = .ok (.aload_n 0, 1) := by decide +kernel
theorem dX10_needOfVote_30 : decode cX10_needOfVote 30 = .ok (.getfield 21, 3) := by decide +kernel
theorem dX10_needOfVote_33 : decode cX10_needOfVote 33 = .ok (.getfield 42, 3) := by decide +kernel
theorem dX10_needOfVote_36 : decode cX10_needOfVote 36 = .ok (.aload_n 0, 1) := by decide +kernel
theorem dX10_needOfVote_37 : decode cX10_needOfVote 37 = .ok (.getfield 21, 3) := by decide +kernel
theorem dX10_needOfVote_40 : decode cX10_needOfVote 40 = .ok (.getfield 46, 3) := by decide +kernel
theorem dX10_needOfVote_43 : decode cX10_needOfVote 43 = .ok (.invokevirtual 202, 3) := by decide +kernel
theorem dX10_needOfVote_46 : decode cX10_needOfVote 46 = .ok (.invokevirtual 199, 3) := by decide +kernel
theorem dX10_needOfVote_49 : decode cX10_needOfVote 49 = .ok (.ireturn, 1) := by decide +kernel
theorem dX10_bestDayUpTo_0 : decode cX10_bestDayUpTo 0 = .ok (.iconst 0, 1) := by decide +kernel
theorem dX10_bestDayUpTo_1 : decode cX10_bestDayUpTo 1 = .ok (.istore_n 2, 1) := by decide +kernel
theorem dX10_bestDayUpTo_2 : decode cX10_bestDayUpTo 2 = .ok (.aload_n 0, 1) := by decide +kernel
theorem dX10_bestDayUpTo_3 : decode cX10_bestDayUpTo 3 = .ok (.iconst 0, 1) := by decide +kernel
theorem dX10_bestDayUpTo_4 : decode cX10_bestDayUpTo 4 = .ok (.invokevirtual 205, 3) := by decide +kernel
theorem dX10_bestDayUpTo_7 : decode cX10_bestDayUpTo 7 = .ok (.istore_n 3, 1) := by decide +kernel
theorem dX10_bestDayUpTo_8 : decode cX10_bestDayUpTo 8 = .ok (.iconst 1, 1) := by decide +kernel
theorem dX10_bestDayUpTo_9 : decode cX10_bestDayUpTo 9 = .ok (.istore 4, 2) := by decide +kernel
theorem dX10_bestDayUpTo_11 : decode cX10_bestDayUpTo 11 = .ok (.iload 4, 2) := by decide +kernel
theorem dX10_bestDayUpTo_13 : decode cX10_bestDayUpTo 13 = .ok (.iload_n 1, 1) := by decide +kernel
theorem dX10_bestDayUpTo_14 : decode cX10_bestDayUpTo 14 = .ok (.if_icmp .gt 36, 3) := by decide +kernel
theorem dX10_bestDayUpTo_17 : decode cX10_bestDayUpTo 17 = .ok (.iload 4, 2) := by decide +kernel
theorem dX10_bestDayUpTo_19 : decode cX10_bestDayUpTo 19 = .ok (.bipush 99, 2) := by decide +kernel
theorem dX10_bestDayUpTo_21 : decode cX10_bestDayUpTo 21 = .ok (.if_icmp .gt 29, 3) := by decide +kernel
theorem dX10_bestDayUpTo_24 : decode cX10_bestDayUpTo 24 = .ok (.aload_n 0, 1) := by decide +kernel
theorem dX10_bestDayUpTo_25 : decode cX10_bestDayUpTo 25 = .ok (.iload 4, 2) := by decide +kernel
theorem dX10_bestDayUpTo_27 : decode cX10_bestDayUpTo 27 = .ok (.invokevirtual 205, 3) := by decide +kernel
theorem dX10_bestDayUpTo_30 : decode cX10_bestDayUpTo 30 = .ok (.istore 5, 2) := by decide +kernel
theorem dX10_bestDayUpTo_32 : decode cX10_bestDayUpTo 32 = .ok (.iload 5, 2) := by decide +kernel
theorem dX10_bestDayUpTo_34 : decode cX10_bestDayUpTo 34 = .ok (.iload_n 3, 1) := by decide +kernel
theorem dX10_bestDayUpTo_35 : decode cX10_bestDayUpTo 35 = .ok (.if_icmp .le 9, 3) := by decide +kernel
theorem dX10_bestDayUpTo_38 : decode cX10_bestDayUpTo 38 = .ok (.iload 5, 2) := by decide +kernel
theorem dX10_bestDayUpTo_40 : decode cX10_bestDayUpTo 40 = .ok (.istore_n 3, 1) := by decide +kernel
theorem dX10_bestDayUpTo_41 : decode cX10_bestDayUpTo 41 = .ok (.iload 4, 2) := by decide +kernel
theorem dX10_bestDayUpTo_43 : decode cX10_bestDayUpTo 43 = .ok (.istore_n 2, 1) := by decide +kernel
theorem dX10_bestDayUpTo_44 : decode cX10_bestDayUpTo 44 = .ok (.iinc 4 1, 3) := by decide +kernel
theorem dX10_bestDayUpTo_47 : decode cX10_bestDayUpTo 47 = .ok (.goto (-36), 3) := by decide +kernel
theorem dX10_bestDayUpTo_50 : decode cX10_bestDayUpTo 50 = .ok (.iload_n 2, 1) := by decide +kernel
theorem dX10_bestDayUpTo_51 : decode cX10_bestDayUpTo 51 = .ok (.ireturn, 1) := by decide +kernel
theorem dX10_surplusBehind_0 : decode cX10_surplusBehind 0 = .ok (.aload_n 0, 1) := by decide +kernel
theorem dX10_surplusBehind_1 : decode cX10_surplusBehind 1 = .ok (.getfield 12, 3) := by decide +kernel
theorem dX10_surplusBehind_4 : decode cX10_surplusBehind 4 = .ok (.invokevirtual 190, 3) := by decide +kernel
theorem dX10_surplusBehind_7 : decode cX10_surplusBehind 7 = .ok (.aload_n 0, 1) := by decide +kernel
theorem dX10_surplusBehind_8 : decode cX10_surplusBehind 8 = .ok (.getfield 21, 3) := by decide +kernel
theorem dX10_surplusBehind_11 : decode cX10_surplusBehind 11 = .ok (.getfield 46, 3) := by decide +kernel
theorem dX10_surplusBehind_14 : decode cX10_surplusBehind 14 = .ok (.aload_n 0, 1) := by decide +kernel
theorem dX10_surplusBehind_15 : decode cX10_surplusBehind 15 = .ok (.getfield 21, 3) := by decide +kernel
theorem dX10_surplusBehind_18 : decode cX10_surplusBehind 18 = .ok (.getfield 42, 3) := by decide +kernel
theorem dX10_surplusBehind_21 : decode cX10_surplusBehind 21 = .ok (.iload_n 1, 1) := by decide +kernel
theorem dX10_surplusBehind_22 : decode cX10_surplusBehind 22 = .ok (.iadd, 1) := by decide +kernel
theorem dX10_surplusBehind_23 : decode cX10_surplusBehind 23 = .ok (.invokevirtual 208, 3) := by decide +kernel
theorem dX10_surplusBehind_26 : decode cX10_surplusBehind 26 = .ok (.isub, 1) := by decide +kernel
theorem dX10_surplusBehind_27 : decode cX10_surplusBehind 27 = .ok (.istore_n 2, 1) := by decide +kernel
theorem dX10_surplusBehind_28 : decode cX10_surplusBehind 28 = .ok (.iload_n 2, 1) := by decide +kernel
theorem dX10_surplusBehind_29 : decode cX10_surplusBehind 29 = .ok (.aload_n 0, 1) := by decide +kernel
theorem dX10_surplusBehind_30 : decode cX10_surplusBehind 30 = .ok (.iload_n 1, 1) := by decide +kernel
theorem dX10_surplusBehind_31 : decode cX10_surplusBehind 31 = .ok (.invokevirtual 211, 3) := by decide +kernel
theorem dX10_surplusBehind_34 : decode cX10_surplusBehind 34 = .ok (.isub, 1) := by decide +kernel
theorem dX10_surplusBehind_35 : decode cX10_surplusBehind 35 = .ok (.ireturn, 1) := by decide +kernel
theorem dX10_reasonFor_0 : decode cX10_reasonFor 0 = .ok (.iload_n 1, 1) := by decide +kernel
theorem dX10_reasonFor_1 : decode cX10_reasonFor 1 = .ok (.iload_n 2, 1) := by decide +kernel
theorem dX10_reasonFor_2 : decode cX10_reasonFor 2 = .ok (.if_icmp .ne 5, 3) := by decide +kernel
theorem dX10_reasonFor_5 : decode cX10_reasonFor 5 = .ok (.iconst 0, 1) := by decide +kernel
theorem dX10_reasonFor_6 : decode cX10_reasonFor 6 = .ok (.ireturn, 1) := by decide +kernel
theorem dX10_reasonFor_7 : decode cX10_reasonFor 7 = .ok (.aload_n 0, 1) := by decide +kernel
theorem dX10_reasonFor_8 : decode cX10_reasonFor 8 = .ok (.getfield 21, 3) := by decide +kernel
theorem dX10_reasonFor_11 : decode cX10_reasonFor 11 = .ok (.getfield 46, 3) := by decide +kernel
theorem dX10_reasonFor_14 : decode cX10_reasonFor 14 = .ok (.iload_n 2, 1) := by decide +kernel
theorem dX10_reasonFor_15 : decode cX10_reasonFor 15 = .ok (.invokevirtual 181, 3) := by decide +kernel
theorem dX10_reasonFor_18 : decode cX10_reasonFor 18 = .ok (.ifCond .ne 5, 3) := by decide +kernel
theorem dX10_reasonFor_21 : decode cX10_reasonFor 21 = .ok (.iconst 1, 1) := by decide +kernel
theorem dX10_reasonFor_22 : decode cX10_reasonFor 22 = .ok (.ireturn, 1) := by decide +kernel
theorem dX10_reasonFor_23 : decode cX10_reasonFor 23 = .ok (.aload_n 0, 1) := by decide +kernel
theorem dX10_reasonFor_24 : decode cX10_reasonFor 24 = .ok (.getfield 21, 3) := by decide +kernel
theorem dX10_reasonFor_27 : decode cX10_reasonFor 27 = .ok (.getfield 87, 3) := by decide +kernel
theorem dX10_reasonFor_30 : decode cX10_reasonFor 30 = .ok (.iload_n 1, 1) := by decide +kernel
theorem dX10_reasonFor_31 : decode cX10_reasonFor 31 = .ok (.invokevirtual 214, 3) := by decide +kernel
theorem dX10_reasonFor_34 : decode cX10_reasonFor 34 = .ok (.aload_n 0, 1) := by decide +kernel
theorem dX10_reasonFor_35 : decode cX10_reasonFor 35 = .ok (.getfield 12, 3) := by decide +kernel
theorem dX10_reasonFor_38 : decode cX10_reasonFor 38 = .ok (.bipush 7, 2) := by decide +kernel
theorem dX10_reasonFor_40 : decode cX10_reasonFor 40 = .ok (.invokevirtual 173, 3) := by decide +kernel
theorem dX10_reasonFor_43 : decode cX10_reasonFor 43 = .ok (.if_icmp .lt 5, 3) := by decide +kernel
theorem dX10_reasonFor_46 : decode cX10_reasonFor 46 = .ok (.iconst 2, 1) := by decide +kernel
theorem dX10_reasonFor_47 : decode cX10_reasonFor 47 = .ok (.ireturn, 1) := by decide +kernel
theorem dX10_reasonFor_48 : decode cX10_reasonFor 48 = .ok (.aload_n 0, 1) := by decide +kernel
theorem dX10_reasonFor_49 : decode cX10_reasonFor 49 = .ok (.getfield 21, 3) := by decide +kernel
theorem dX10_reasonFor_52 : decode cX10_reasonFor 52 = .ok (.getfield 87, 3) := by decide +kernel
theorem dX10_reasonFor_55 : decode cX10_reasonFor 55 = .ok (.iload_n 2, 1) := by decide +kernel
theorem dX10_reasonFor_56 : decode cX10_reasonFor 56 = .ok (.invokevirtual 217, 3) := by decide +kernel
theorem dX10_reasonFor_59 : decode cX10_reasonFor 59 = .ok (.istore 4, 2) := by decide +kernel
theorem dX10_reasonFor_61 : decode cX10_reasonFor 61 = .ok (.iload 4, 2) := by decide +kernel
theorem dX10_reasonFor_63 : decode cX10_reasonFor 63 = .ok (.bipush (-2), 2) := by decide +kernel
theorem dX10_reasonFor_65 : decode cX10_reasonFor 65 = .ok (.if_icmp .eq 9, 3) := by decide +kernel
theorem dX10_reasonFor_68 : decode cX10_reasonFor 68 = .ok (.iload 4, 2) := by decide +kernel
theorem dX10_reasonFor_70 : decode cX10_reasonFor 70 = .ok (.iload_n 3, 1) := by decide +kernel
theorem dX10_reasonFor_71 : decode cX10_reasonFor 71 = .ok (.if_icmp .ne 7, 3) := by decide +kernel
theorem dX10_reasonFor_74 : decode cX10_reasonFor 74 = .ok (.iconst 0, 1) := by decide +kernel
theorem dX10_reasonFor_75 : decode cX10_reasonFor 75 = .ok (.goto 4, 3) := by decide +kernel
theorem dX10_reasonFor_78 : decode cX10_reasonFor 78 = .ok (.iconst 3, 1) := by decide +kernel
theorem dX10_reasonFor_79 : decode cX10_reasonFor 79 = .ok (.ireturn, 1) := by decide +kernel
theorem dX10_resultNow_0 : decode cX10_resultNow 0 = .ok (.aload_n 0, 1) := by decide +kernel
theorem dX10_resultNow_1 : decode cX10_resultNow 1 = .ok (.aload_n 0, 1) := by decide +kernel
theorem dX10_resultNow_2 : decode cX10_resultNow 2 = .ok (.invokevirtual 167, 3) := by decide +kernel
theorem dX10_resultNow_5 : decode cX10_resultNow 5 = .ok (.invokevirtual 151, 3) := by decide +kernel
theorem dX10_resultNow_8 : decode cX10_resultNow 8 = .ok (.ireturn, 1) := by decide +kernel
theorem dX10_resultFor_0 : decode cX10_resultFor 0 = .ok (.aload_n 0, 1) := by decide +kernel
theorem dX10_resultFor_1 : decode cX10_resultFor 1 = .ok (.getfield 28, 3) := by decide +kernel
theorem dX10_resultFor_4 : decode cX10_resultFor 4 = .ok (.aload_n 0, 1) := by decide +kernel
theorem dX10_resultFor_5 : decode cX10_resultFor 5 = .ok (.getfield 21, 3) := by decide +kernel
theorem dX10_resultFor_8 : decode cX10_resultFor 8 = .ok (.getfield 87, 3) := by decide +kernel
theorem dX10_resultFor_11 : decode cX10_resultFor 11 = .ok (.invokevirtual 220, 3) := by decide +kernel
theorem dX10_resultFor_14 : decode cX10_resultFor 14 = .ok (.aload_n 0, 1) := by decide +kernel
theorem dX10_resultFor_15 : decode cX10_resultFor 15 = .ok (.getfield 28, 3) := by decide +kernel
theorem dX10_resultFor_18 : decode cX10_resultFor 18 = .ok (.iload_n 1, 1) := by decide +kernel
theorem dX10_resultFor_19 : decode cX10_resultFor 19 = .ok (.invokevirtual 224, 3) := by decide +kernel
theorem dX10_resultFor_22 : decode cX10_resultFor 22 = .ok (.ireturn, 1) := by decide +kernel
theorem dX10_resultOfRightOnes_0 : decode cX10_resultOfRightOnes 0 = .ok (.aload_n 0, 1) := by decide +kernel
theorem dX10_resultOfRightOnes_1 : decode cX10_resultOfRightOnes 1 = .ok (.getfield 28, 3) := by decide +kernel
theorem dX10_resultOfRightOnes_4 : decode cX10_resultOfRightOnes 4 = .ok (.aload_n 0, 1) := by decide +kernel
theorem dX10_resultOfRightOnes_5 : decode cX10_resultOfRightOnes 5 = .ok (.getfield 21, 3) := by decide +kernel
theorem dX10_resultOfRightOnes_8 : decode cX10_resultOfRightOnes 8 = .ok (.getfield 87, 3) := by decide +kernel
theorem dX10_resultOfRightOnes_11 : decode cX10_resultOfRightOnes 11 = .ok (.invokevirtual 220, 3) := by decide +kernel
theorem dX10_resultOfRightOnes_14 : decode cX10_resultOfRightOnes 14 = .ok (.iconst 0, 1) := by decide +kernel
theorem dX10_resultOfRightOnes_15 : decode cX10_resultOfRightOnes 15 = .ok (.istore_n 1, 1) := by decide +kernel
theorem dX10_resultOfRightOnes_16 : decode cX10_resultOfRightOnes 16 = .ok (.iload_n 1, 1) := by decide +kernel
theorem dX10_resultOfRightOnes_17 : decode cX10_resultOfRightOnes 17 = .ok (.bipush 20, 2) := by decide +kernel
theorem dX10_resultOfRightOnes_19 : decode cX10_resultOfRightOnes 19 = .ok (.if_icmp .ge 31, 3) := by decide +kernel
theorem dX10_resultOfRightOnes_22 : decode cX10_resultOfRightOnes 22 = .ok (.aload_n 0, 1) := by decide +kernel
theorem dX10_resultOfRightOnes_23 : decode cX10_resultOfRightOnes 23 = .ok (.getfield 21, 3) := by decide +kernel
theorem dX10_resultOfRightOnes_26 : decode cX10_resultOfRightOnes 26 = .ok (.getfield 87, 3) := by decide +kernel
theorem dX10_resultOfRightOnes_29 : decode cX10_resultOfRightOnes 29 = .ok (.iload_n 1, 1) := by decide +kernel
theorem dX10_resultOfRightOnes_30 : decode cX10_resultOfRightOnes 30 = .ok (.invokevirtual 137, 3) := by decide +kernel
theorem dX10_resultOfRightOnes_33 : decode cX10_resultOfRightOnes 33 = .ok (.ifCond .eq 11, 3) := by decide +kernel
theorem dX10_resultOfRightOnes_36 : decode cX10_resultOfRightOnes 36 = .ok (.aload_n 0, 1) := by decide +kernel
theorem dX10_resultOfRightOnes_37 : decode cX10_resultOfRightOnes 37 = .ok (.getfield 28, 3) := by decide +kernel
theorem dX10_resultOfRightOnes_40 : decode cX10_resultOfRightOnes 40 = .ok (.iload_n 1, 1) := by decide +kernel
theorem dX10_resultOfRightOnes_41 : decode cX10_resultOfRightOnes 41 = .ok (.invokevirtual 227, 3) := by decide +kernel
theorem dX10_resultOfRightOnes_44 : decode cX10_resultOfRightOnes 44 = .ok (.iinc 1 1, 3) := by decide +kernel
theorem dX10_resultOfRightOnes_47 : decode cX10_resultOfRightOnes 47 = .ok (.goto (-31), 3) := by decide +kernel
theorem dX10_resultOfRightOnes_50 : decode cX10_resultOfRightOnes 50 = .ok (.aload_n 0, 1) := by decide +kernel
theorem dX10_resultOfRightOnes_51 : decode cX10_resultOfRightOnes 51 = .ok (.getfield 28, 3) := by decide +kernel
theorem dX10_resultOfRightOnes_54 : decode cX10_resultOfRightOnes 54 = .ok (.aload_n 0, 1) := by decide +kernel
theorem dX10_resultOfRightOnes_55 : decode cX10_resultOfRightOnes 55 = .ok (.invokevirtual 167, 3) := by decide +kernel
theorem dX10_resultOfRightOnes_58 : decode cX10_resultOfRightOnes 58 = .ok (.invokevirtual 224, 3) := by decide +kernel
theorem dX10_resultOfRightOnes_61 : decode cX10_resultOfRightOnes 61 = .ok (.ireturn, 1) := by decide +kernel
theorem dX10_resultWithAllInto_0 : decode cX10_resultWithAllInto 0 = .ok (.aload_n 0, 1) := by decide +kernel
theorem dX10_resultWithAllInto_1 : decode cX10_resultWithAllInto 1 = .ok (.getfield 28, 3) := by decide +kernel
theorem dX10_resultWithAllInto_4 : decode cX10_resultWithAllInto 4 = .ok (.aload_n 0, 1) := by decide +kernel
theorem dX10_resultWithAllInto_5 : decode cX10_resultWithAllInto 5 = .ok (.getfield 21, 3) := by decide +kernel
theorem dX10_resultWithAllInto_8 : decode cX10_resultWithAllInto 8 = .ok (.getfield 87, 3) := by decide +kernel
theorem dX10_resultWithAllInto_11 : decode cX10_resultWithAllInto 11 = .ok (.invokevirtual 220, 3) := by decide +kernel
theorem dX10_resultWithAllInto_14 : decode cX10_resultWithAllInto 14 = .ok (.iconst 0, 1) := by decide +kernel
theorem dX10_resultWithAllInto_15 : decode cX10_resultWithAllInto 15 = .ok (.istore_n 2, 1) := by decide +kernel
theorem dX10_resultWithAllInto_16 : decode cX10_resultWithAllInto 16 = .ok (.iload_n 2, 1) := by decide +kernel
theorem dX10_resultWithAllInto_17 : decode cX10_resultWithAllInto 17 = .ok (.aload_n 0, 1) := by decide +kernel
theorem dX10_resultWithAllInto_18 : decode cX10_resultWithAllInto 18 = .ok (.getfield 12, 3) := by decide +kernel
theorem dX10_resultWithAllInto_21 : decode cX10_resultWithAllInto 21 = .ok (.invokevirtual 190, 3) := by decide +kernel
theorem dX10_resultWithAllInto_24 : decode cX10_resultWithAllInto 24 = .ok (.if_icmp .ge 26, 3) := by decide +kernel
theorem dX10_resultWithAllInto_27 : decode cX10_resultWithAllInto 27 = .ok (.aload_n 0, 1) := by decide +kernel
theorem dX10_resultWithAllInto_28 : decode cX10_resultWithAllInto 28 = .ok (.iload_n 2, 1) := by decide +kernel
theorem dX10_resultWithAllInto_29 : decode cX10_resultWithAllInto 29 = .ok (.invokevirtual 230, 3) := by decide +kernel
theorem dX10_resultWithAllInto_32 : decode cX10_resultWithAllInto 32 = .ok (.ifCond .eq 12, 3) := by decide +kernel
theorem dX10_resultWithAllInto_35 : decode cX10_resultWithAllInto 35 = .ok (.aload_n 0, 1) := by decide +kernel
theorem dX10_resultWithAllInto_36 : decode cX10_resultWithAllInto 36 = .ok (.getfield 28, 3) := by decide +kernel
theorem dX10_resultWithAllInto_39 : decode cX10_resultWithAllInto 39 = .ok (.iload_n 2, 1) := by decide +kernel
theorem dX10_resultWithAllInto_40 : decode cX10_resultWithAllInto 40 = .ok (.iload_n 1, 1) := by decide +kernel
theorem dX10_resultWithAllInto_41 : decode cX10_resultWithAllInto 41 = .ok (.invokevirtual 233, 3) := by decide +kernel
theorem dX10_resultWithAllInto_44 : decode cX10_resultWithAllInto 44 = .ok (.iinc 2 1, 3) := by decide +kernel
theorem dX10_resultWithAllInto_47 : decode cX10_resultWithAllInto 47 = .ok (.goto (-31), 3) := by decide +kernel
theorem dX10_resultWithAllInto_50 : decode cX10_resultWithAllInto 50 = .ok (.aload_n 0, 1) := by decide +kernel
theorem dX10_resultWithAllInto_51 : decode cX10_resultWithAllInto 51 = .ok (.getfield 28, 3) := by decide +kernel
theorem dX10_resultWithAllInto_54 : decode cX10_resultWithAllInto 54 = .ok (.aload_n 0, 1) := by decide +kernel
theorem dX10_resultWithAllInto_55 : decode cX10_resultWithAllInto 55 = .ok (.invokevirtual 167, 3) := by decide +kernel
theorem dX10_resultWithAllInto_58 : decode cX10_resultWithAllInto 58 = .ok (.invokevirtual 224, 3) := by decide +kernel
theorem dX10_resultWithAllInto_61 : decode cX10_resultWithAllInto 61 = .ok (.ireturn, 1) := by decide +kernel
theorem dX10_canBeLaid_0 : decode cX10_canBeLaid 0 = .ok (.aload_n 0, 1) := by decide +kernel
theorem dX10_canBeLaid_1 : decode cX10_canBeLaid 1 = .ok (.getfield 21, 3) := by decide +kernel
theorem dX10_canBeLaid_4 : decode cX10_canBeLaid 4 = .ok (.getfield 87, 3) := by decide +kernel
theorem dX10_canBeLaid_7 : decode cX10_canBeLaid 7 = .ok (.iload_n 1, 1) := by decide +kernel
theorem dX10_canBeLaid_8 : decode cX10_canBeLaid 8 = .ok (.invokevirtual 237, 3) := by decide +kernel
theorem dX10_canBeLaid_11 : decode cX10_canBeLaid 11 = .ok (.istore_n 2, 1) := by decide +kernel
theorem dX10_canBeLaid_12 : decode cX10_canBeLaid 12 = .ok (.iload_n 2, 1) := by decide +kernel
theorem dX10_canBeLaid_13 : decode cX10_canBeLaid 13 = .ok (.ifCond .ne 23, 3) := by decide +kernel
theorem dX10_canBeLaid_16 : decode cX10_canBeLaid 16 = .ok (.aload_n 0, 1) := by decide +kernel
theorem dX10_canBeLaid_17 : decode cX10_canBeLaid 17 = .ok (.getfield 21, 3) := by decide +kernel
theorem dX10_canBeLaid_20 : decode cX10_canBeLaid 20 = .ok (.getfield 46, 3) := by decide +kernel
theorem dX10_canBeLaid_23 : decode cX10_canBeLaid 23 = .ok (.iload_n 1, 1) := by decide +kernel
theorem dX10_canBeLaid_24 : decode cX10_canBeLaid 24 = .ok (.invokevirtual 181, 3) := by decide +kernel
theorem dX10_canBeLaid_27 : decode cX10_canBeLaid 27 = .ok (.ifCond .ne 7, 3) := by decide +kernel
theorem dX10_canBeLaid_30 : decode cX10_canBeLaid 30 = .ok (.iconst 1, 1) := by decide +kernel
theorem dX10_canBeLaid_31 : decode cX10_canBeLaid 31 = .ok (.goto 4, 3) := by decide +kernel
theorem dX10_canBeLaid_34 : decode cX10_canBeLaid 34 = .ok (.iconst 0, 1) := by decide +kernel
theorem dX10_canBeLaid_35 : decode cX10_canBeLaid 35 = .ok (.ireturn, 1) := by decide +kernel
theorem dX10_canBeLaid_36 : decode cX10_canBeLaid 36 = .ok (.iload_n 2, 1) := by decide +kernel
theorem dX10_canBeLaid_37 : decode cX10_canBeLaid 37 = .ok (.iconst 1, 1) := by decide +kernel
theorem dX10_canBeLaid_38 : decode cX10_canBeLaid 38 = .ok (.if_icmp .ne 31, 3) := by decide +kernel
theorem dX10_canBeLaid_41 : decode cX10_canBeLaid 41 = .ok (.aload_n 0, 1) := by decide +kernel
theorem dX10_canBeLaid_42 : decode cX10_canBeLaid 42 = .ok (.getfield 21, 3) := by decide +kernel
theorem dX10_canBeLaid_45 : decode cX10_canBeLaid 45 = .ok (.getfield 46, 3) := by decide +kernel
theorem dX10_canBeLaid_48 : decode cX10_canBeLaid 48 = .ok (.aload_n 0, 1) := by decide +kernel
theorem dX10_canBeLaid_49 : decode cX10_canBeLaid 49 = .ok (.getfield 21, 3) := by decide +kernel
theorem dX10_canBeLaid_52 : decode cX10_canBeLaid 52 = .ok (.getfield 87, 3) := by decide +kernel
theorem dX10_canBeLaid_55 : decode cX10_canBeLaid 55 = .ok (.iload_n 1, 1) := by decide +kernel
theorem dX10_canBeLaid_56 : decode cX10_canBeLaid 56 = .ok (.invokevirtual 240, 3) := by decide +kernel
theorem dX10_canBeLaid_59 : decode cX10_canBeLaid 59 = .ok (.invokevirtual 181, 3) := by decide +kernel
theorem dX10_canBeLaid_62 : decode cX10_canBeLaid 62 = .ok (.ifCond .ne 7, 3) := by decide +kernel
theorem dX10_canBeLaid_65 : decode cX10_canBeLaid 65 = .ok (.iconst 1, 1) := by decide +kernel
theorem dX10_canBeLaid_66 : decode cX10_canBeLaid 66 = .ok (.goto 4, 3) := by decide +kernel
theorem dX10_canBeLaid_69 : decode cX10_canBeLaid 69 = .ok (.iconst 0, 1) := by decide +kernel
theorem dX10_canBeLaid_70 : decode cX10_canBeLaid 70 = .ok (.ireturn, 1) := by decide +kernel
theorem dX10_decidingSticks_0 : decode cX10_decidingSticks 0 = .ok (.aload_n 0, 1) := by decide +kernel
theorem dX10_decidingSticks_1 : decode cX10_decidingSticks 1 = .ok (.invokevirtual 128, 3) := by decide +kernel
theorem dX10_decidingSticks_4 : decode cX10_decidingSticks 4 = .ok (.istore_n 1, 1) := by decide +kernel
theorem dX10_decidingSticks_5 : decode cX10_decidingSticks 5 = .ok (.iload_n 1, 1) := by decide +kernel
theorem dX10_decidingSticks_6 : decode cX10_decidingSticks 6 = .ok (.bipush (-2), 2) := by decide +kernel
theorem dX10_decidingSticks_8 : decode cX10_decidingSticks 8 = .ok (.if_icmp .ne 5, 3) := by decide +kernel
theorem dX10_decidingSticks_11 : decode cX10_decidingSticks 11 = .ok (.iconst 0, 1) := by decide +kernel
theorem dX10_decidingSticks_12 : decode cX10_decidingSticks 12 = .ok (.ireturn, 1) := by decide +kernel
theorem dX10_decidingSticks_13 : decode cX10_decidingSticks 13 = .ok (.iconst 0, 1) := by decide +kernel
theorem dX10_decidingSticks_14 : decode cX10_decidingSticks 14 = .ok (.istore_n 2, 1) := by decide +kernel
theorem dX10_decidingSticks_15 : decode cX10_decidingSticks 15 = .ok (.iconst 0, 1) := by decide +kernel
theorem dX10_decidingSticks_16 : decode cX10_decidingSticks 16 = .ok (.istore_n 3, 1) := by decide +kernel
theorem dX10_decidingSticks_17 : decode cX10_decidingSticks 17 = .ok (.iload_n 3, 1) := by decide +kernel
theorem dX10_decidingSticks_18 : decode cX10_decidingSticks 18 = .ok (.bipush 20, 2) := by decide +kernel
theorem dX10_decidingSticks_20 : decode cX10_decidingSticks 20 = .ok (.if_icmp .ge 72, 3) := by decide +kernel
theorem dX10_decidingSticks_23 : decode cX10_decidingSticks 23 = .ok (.aload_n 0, 1) := by decide +kernel
theorem dX10_decidingSticks_24 : decode cX10_decidingSticks 24 = .ok (.getfield 21, 3) := by decide +kernel
theorem dX10_decidingSticks_27 : decode cX10_decidingSticks 27 = .ok (.getfield 87, 3) := by decide +kernel
theorem dX10_decidingSticks_30 : decode cX10_decidingSticks 30 = .ok (.iload_n 3, 1) := by decide +kernel
theorem dX10_decidingSticks_31 : decode cX10_decidingSticks 31 = .ok (.invokevirtual 237, 3) := by decide +kernel
theorem dX10_decidingSticks_34 : decode cX10_decidingSticks 34 = .ok (.iconst 2, 1) := by decide +kernel
theorem dX10_decidingSticks_35 : decode cX10_decidingSticks 35 = .ok (.if_icmp .eq 6, 3) := by decide +kernel
theorem dX10_decidingSticks_38 : decode cX10_decidingSticks 38 = .ok (.goto 48, 3) := by decide +kernel
theorem dX10_decidingSticks_41 : decode cX10_decidingSticks 41 = .ok (.aload_n 0, 1) := by decide +kernel
theorem dX10_decidingSticks_42 : decode cX10_decidingSticks 42 = .ok (.getfield 28, 3) := by decide +kernel
theorem dX10_decidingSticks_45 : decode cX10_decidingSticks 45 = .ok (.iload_n 3, 1) := by decide +kernel
theorem dX10_decidingSticks_46 : decode cX10_decidingSticks 46 = .ok (.invokevirtual 227, 3) := by decide +kernel
theorem dX10_decidingSticks_49 : decode cX10_decidingSticks 49 = .ok (.aload_n 0, 1) := by decide +kernel
theorem dX10_decidingSticks_50 : decode cX10_decidingSticks 50 = .ok (.getfield 28, 3) := by decide +kernel
theorem dX10_decidingSticks_53 : decode cX10_decidingSticks 53 = .ok (.aload_n 0, 1) := by decide +kernel
theorem dX10_decidingSticks_54 : decode cX10_decidingSticks 54 = .ok (.invokevirtual 167, 3) := by decide +kernel
theorem dX10_decidingSticks_57 : decode cX10_decidingSticks 57 = .ok (.invokevirtual 224, 3) := by decide +kernel
theorem dX10_decidingSticks_60 : decode cX10_decidingSticks 60 = .ok (.iload_n 1, 1) := by decide +kernel
theorem dX10_decidingSticks_61 : decode cX10_decidingSticks 61 = .ok (.if_icmp .eq 6, 3) := by decide +kernel
theorem dX10_decidingSticks_64 : decode cX10_decidingSticks 64 = .ok (.iinc 2 1, 3) := by decide +kernel
theorem dX10_decidingSticks_67 : decode cX10_decidingSticks 67 = .ok (.aload_n 0, 1) := by decide +kernel
theorem dX10_decidingSticks_68 : decode cX10_decidingSticks 68 = .ok (.getfield 28, 3) := by decide +kernel
theorem dX10_decidingSticks_71 : decode cX10_decidingSticks 71 = .ok (.iload_n 3, 1) := by decide +kernel
theorem dX10_decidingSticks_72 : decode cX10_decidingSticks 72 = .ok (.aload_n 0, 1) := by decide +kernel
theorem dX10_decidingSticks_73 : decode cX10_decidingSticks 73 = .ok (.getfield 21, 3) := by decide +kernel
theorem dX10_decidingSticks_76 : decode cX10_decidingSticks 76 = .ok (.getfield 87, 3) := by decide +kernel
theorem dX10_decidingSticks_79 : decode cX10_decidingSticks 79 = .ok (.iload_n 3, 1) := by decide +kernel
theorem dX10_decidingSticks_80 : decode cX10_decidingSticks 80 = .ok (.invokevirtual 243, 3) := by decide +kernel
theorem dX10_decidingSticks_83 : decode cX10_decidingSticks 83 = .ok (.invokevirtual 233, 3) := by decide +kernel
theorem dX10_decidingSticks_86 : decode cX10_decidingSticks 86 = .ok (.iinc 3 1, 3) := by decide +kernel
theorem dX10_decidingSticks_89 : decode cX10_decidingSticks 89 = .ok (.goto (-72), 3) := by decide +kernel
theorem dX10_decidingSticks_92 : decode cX10_decidingSticks 92 = .ok (.iload_n 2, 1) := by decide +kernel
theorem dX10_decidingSticks_93 : decode cX10_decidingSticks 93 = .ok (.ireturn, 1) := by decide +kernel
theorem dX10_mightiestCarrier_0 : decode cX10_mightiestCarrier 0 = .ok (.bipush (-2), 2) := by decide +kernel
theorem dX10_mightiestCarrier_2 : decode cX10_mightiestCarrier 2 = .ok (.istore_n 1, 1) := by decide +kernel
theorem dX10_mightiestCarrier_3 : decode cX10_mightiestCarrier 3 = .ok (.iconst 0, 1) := by decide +kernel
theorem dX10_mightiestCarrier_4 : decode cX10_mightiestCarrier 4 = .ok (.istore_n 2, 1) := by decide +kernel
theorem dX10_mightiestCarrier_5 : decode cX10_mightiestCarrier 5 = .ok (.iconst 0, 1) := by decide +kernel
theorem dX10_mightiestCarrier_6 : decode cX10_mightiestCarrier 6 = .ok (.istore_n 3, 1) := by decide +kernel
theorem dX10_mightiestCarrier_7 : decode cX10_mightiestCarrier 7 = .ok (.iload_n 3, 1) := by decide +kernel
theorem dX10_mightiestCarrier_8 : decode cX10_mightiestCarrier 8 = .ok (.aload_n 0, 1) := by decide +kernel
theorem dX10_mightiestCarrier_9 : decode cX10_mightiestCarrier 9 = .ok (.getfield 12, 3) := by decide +kernel
theorem dX10_mightiestCarrier_12 : decode cX10_mightiestCarrier 12 = .ok (.invokevirtual 190, 3) := by decide +kernel
theorem dX10_mightiestCarrier_15 : decode cX10_mightiestCarrier 15 = .ok (.if_icmp .ge 44, 3) := by decide +kernel
theorem dX10_mightiestCarrier_18 : decode cX10_mightiestCarrier 18 = .ok (.aload_n 0, 1) := by decide +kernel
theorem dX10_mightiestCarrier_19 : decode cX10_mightiestCarrier 19 = .ok (.getfield 21, 3) := by decide +kernel
theorem dX10_mightiestCarrier_22 : decode cX10_mightiestCarrier 22 = .ok (.getfield 46, 3) := by decide +kernel
theorem dX10_mightiestCarrier_25 : decode cX10_mightiestCarrier 25 = .ok (.iload_n 3, 1) := by decide +kernel
theorem dX10_mightiestCarrier_26 : decode cX10_mightiestCarrier 26 = .ok (.invokevirtual 181, 3) := by decide +kernel
theorem dX10_mightiestCarrier_29 : decode cX10_mightiestCarrier 29 = .ok (.ifCond .eq 6, 3) := by decide +kernel
theorem dX10_mightiestCarrier_32 : decode cX10_mightiestCarrier 32 = .ok (.goto 21, 3) := by decide +kernel
theorem dX10_mightiestCarrier_35 : decode cX10_mightiestCarrier 35 = .ok (.aload_n 0, 1) := by decide +kernel
theorem dX10_mightiestCarrier_36 : decode cX10_mightiestCarrier 36 = .ok (.iload_n 3, 1) := by decide +kernel
theorem dX10_mightiestCarrier_37 : decode cX10_mightiestCarrier 37 = .ok (.invokevirtual 246, 3) := by decide +kernel
theorem dX10_mightiestCarrier_40 : decode cX10_mightiestCarrier 40 = .ok (.istore 4, 2) := by decide +kernel
theorem dX10_mightiestCarrier_42 : decode cX10_mightiestCarrier 42 = .ok (.iload 4, 2) := by decide +kernel
theorem dX10_mightiestCarrier_44 : decode cX10_mightiestCarrier 44 = .ok (.iload_n 2, 1) := by decide +kernel
theorem dX10_mightiestCarrier_45 : decode cX10_mightiestCarrier 45 = .ok (.if_icmp .le 8, 3) := by decide +kernel
theorem dX10_mightiestCarrier_48 : decode cX10_mightiestCarrier 48 = .ok (.iload 4, 2) := by decide +kernel
theorem dX10_mightiestCarrier_50 : decode cX10_mightiestCarrier 50 = .ok (.istore_n 2, 1) := by decide +kernel
theorem dX10_mightiestCarrier_51 : decode cX10_mightiestCarrier 51 = .ok (.iload_n 3, 1) := by decide +kernel
theorem dX10_mightiestCarrier_52 : decode cX10_mightiestCarrier 52 = .ok (.istore_n 1, 1) := by decide +kernel
theorem dX10_mightiestCarrier_53 : decode cX10_mightiestCarrier 53 = .ok (.iinc 3 1, 3) := by decide +kernel
theorem dX10_mightiestCarrier_56 : decode cX10_mightiestCarrier 56 = .ok (.goto (-49), 3) := by decide +kernel
theorem dX10_mightiestCarrier_59 : decode cX10_mightiestCarrier 59 = .ok (.iload_n 1, 1) := by decide +kernel
theorem dX10_mightiestCarrier_60 : decode cX10_mightiestCarrier 60 = .ok (.ireturn, 1) := by decide +kernel
theorem dX10_mightOf_0 : decode cX10_mightOf 0 = .ok (.aload_n 0, 1) := by decide +kernel
theorem dX10_mightOf_1 : decode cX10_mightOf 1 = .ok (.getfield 21, 3) := by decide +kernel
theorem dX10_mightOf_4 : decode cX10_mightOf 4 = .ok (.getfield 87, 3) := by decide +kernel
theorem dX10_mightOf_7 : decode cX10_mightOf 7 = .ok (.iload_n 1, 1) := by decide +kernel
theorem dX10_mightOf_8 : decode cX10_mightOf 8 = .ok (.invokevirtual 249, 3) := by decide +kernel
theorem dX10_mightOf_11 : decode cX10_mightOf 11 = .ok (.istore_n 2, 1) := by decide +kernel
theorem dX10_mightOf_12 : decode cX10_mightOf 12 = .ok (.iconst 0, 1) := by decide +kernel
theorem dX10_mightOf_13 : decode cX10_mightOf 13 = .ok (.istore_n 3, 1) := by decide +kernel
theorem dX10_mightOf_14 : decode cX10_mightOf 14 = .ok (.iconst 0, 1) := by decide +kernel
theorem dX10_mightOf_15 : decode cX10_mightOf 15 = .ok (.istore 4, 2) := by decide +kernel
theorem dX10_mightOf_17 : decode cX10_mightOf 17 = .ok (.iload 4, 2) := by decide +kernel
theorem dX10_mightOf_19 : decode cX10_mightOf 19 = .ok (.bipush 20, 2) := by decide +kernel
theorem dX10_mightOf_21 : decode cX10_mightOf 21 = .ok (.if_icmp .ge 36, 3) := by decide +kernel
theorem dX10_mightOf_24 : decode cX10_mightOf 24 = .ok (.iload_n 2, 1) := by decide +kernel
theorem dX10_mightOf_25 : decode cX10_mightOf 25 = .ok (.iload 4, 2) := by decide +kernel
theorem dX10_mightOf_27 : decode cX10_mightOf 27 = .ok (.ishr, 1) := by decide +kernel
theorem dX10_mightOf_28 : decode cX10_mightOf 28 = .ok (.iconst 1, 1) := by decide +kernel
theorem dX10_mightOf_29 : decode cX10_mightOf 29 = .ok (.iand, 1) := by decide +kernel
theorem dX10_mightOf_30 : decode cX10_mightOf 30 = .ok (.ifCond .eq 21, 3) := by decide +kernel
theorem dX10_mightOf_33 : decode cX10_mightOf 33 = .ok (.aload_n 0, 1) := by decide +kernel
theorem dX10_mightOf_34 : decode cX10_mightOf 34 = .ok (.getfield 21, 3) := by decide +kernel
theorem dX10_mightOf_37 : decode cX10_mightOf 37 = .ok (.getfield 46, 3) := by decide +kernel
theorem dX10_mightOf_40 : decode cX10_mightOf 40 = .ok (.iload 4, 2) := by decide +kernel
theorem dX10_mightOf_42 : decode cX10_mightOf 42 = .ok (.invokevirtual 181, 3) := by decide +kernel
theorem dX10_mightOf_45 : decode cX10_mightOf 45 = .ok (.ifCond .eq 6, 3) := by decide +kernel
theorem dX10_mightOf_48 : decode cX10_mightOf 48 = .ok (.iinc 3 1, 3) := by decide +kernel
theorem dX10_mightOf_51 : decode cX10_mightOf 51 = .ok (.iinc 4 1, 3) := by decide +kernel
theorem dX10_mightOf_54 : decode cX10_mightOf 54 = .ok (.goto (-37), 3) := by decide +kernel
theorem dX10_mightOf_57 : decode cX10_mightOf 57 = .ok (.iload_n 3, 1) := by decide +kernel
theorem dX10_mightOf_58 : decode cX10_mightOf 58 = .ok (.aload_n 0, 1) := by decide +kernel
theorem dX10_mightOf_59 : decode cX10_mightOf 59 = .ok (.getfield 12, 3) := by decide +kernel
theorem dX10_mightOf_62 : decode cX10_mightOf 62 = .ok (.bipush 7, 2) := by decide +kernel
theorem dX10_mightOf_64 : decode cX10_mightOf 64 = .ok (.invokevirtual 173, 3) := by decide +kernel
theorem dX10_mightOf_67 : decode cX10_mightOf 67 = .ok (.invokestatic 252, 3) := by decide +kernel
theorem dX10_mightOf_70 : decode cX10_mightOf 70 = .ok (.istore 4, 2) := by decide +kernel
theorem dX10_mightOf_72 : decode cX10_mightOf 72 = .ok (.aload_n 0, 1) := by decide +kernel
theorem dX10_mightOf_73 : decode cX10_mightOf 73 = .ok (.getfield 21, 3) := by decide +kernel
theorem dX10_mightOf_76 : decode cX10_mightOf 76 = .ok (.getfield 144, 3) := by decide +kernel
theorem dX10_mightOf_79 : decode cX10_mightOf 79 = .ok (.ifCond .eq 20, 3) := by decide +kernel
theorem dX10_mightOf_82 : decode cX10_mightOf 82 = .ok (.iload 4, 2) := by decide +kernel
theorem dX10_mightOf_84 : decode cX10_mightOf 84 = .ok (.aload_n 0, 1) := by decide +kernel
theorem dX10_mightOf_85 : decode cX10_mightOf 85 = .ok (.getfield 21, 3) := by decide +kernel
theorem dX10_mightOf_88 : decode cX10_mightOf 88 = .ok (.getfield 87, 3) := by decide +kernel
theorem dX10_mightOf_91 : decode cX10_mightOf 91 = .ok (.iload_n 1, 1) := by decide +kernel
theorem dX10_mightOf_92 : decode cX10_mightOf 92 = .ok (.invokevirtual 214, 3) := by decide +kernel
theorem dX10_mightOf_95 : decode cX10_mightOf 95 = .ok (.isub, 1) := by decide +kernel
theorem dX10_mightOf_96 : decode cX10_mightOf 96 = .ok (.goto 5, 3) := by decide +kernel
theorem dX10_mightOf_99 : decode cX10_mightOf 99 = .ok (.iload 4, 2) := by decide +kernel
theorem dX10_mightOf_101 : decode cX10_mightOf 101 = .ok (.ireturn, 1) := by decide +kernel
theorem dX11_init_0 : decode cX11_init 0 = .ok (.aload_n 0, 1) := by decide +kernel
theorem dX11_init_1 : decode cX11_init 1 = .ok (.invokespecial 1, 3) := by decide +kernel
theorem dX11_init_4 : decode cX11_init 4 = .ok (.aload_n 0, 1) := by decide +kernel
theorem dX11_init_5 : decode cX11_init 5 = .ok (.new 7, 3) := by decide +kernel
theorem dX11_init_8 : decode cX11_init 8 = .ok (.dup, 1) := by decide +kernel
theorem dX11_init_9 : decode cX11_init 9 = .ok (.invokespecial 9, 3) := by decide +kernel
theorem dX11_init_12 : decode cX11_init 12 = .ok (.putfield 10, 3) := by decide +kernel
theorem dX11_init_15 : decode cX11_init 15 = .ok (.aload_n 0, 1) := by decide +kernel
theorem dX11_init_16 : decode cX11_init 16 = .ok (.aload_n 0, 1) := by decide +kernel
theorem dX11_init_17 : decode cX11_init 17 = .ok (.getfield 10, 3) := by decide +kernel
theorem dX11_init_20 : decode cX11_init 20 = .ok (.getfield 16, 3) := by decide +kernel
theorem dX11_init_23 : decode cX11_init 23 = .ok (.putfield 20, 3) := by decide +kernel
theorem dX11_init_26 : decode cX11_init 26 = .ok (.aload_n 0, 1) := by decide +kernel
theorem dX11_init_27 : decode cX11_init 27 = .ok (.new 21, 3) := by decide +kernel
theorem dX11_init_30 : decode cX11_init 30 = .ok (.dup, 1) := by decide +kernel
theorem dX11_init_31 : decode cX11_init 31 = .ok (.invokespecial 23, 3) := by decide +kernel
theorem dX11_init_34 : decode cX11_init 34 = .ok (.putfield 24, 3) := by decide +kernel
theorem dX11_init_37 : decode cX11_init 37 = .ok (.aload_n 0, 1) := by decide +kernel
theorem dX11_init_38 : decode cX11_init 38 = .ok (.aload_n 0, 1) := by decide +kernel
theorem dX11_init_39 : decode cX11_init 39 = .ok (.getfield 24, 3) := by decide +kernel
theorem dX11_init_42 : decode cX11_init 42 = .ok (.getfield 28, 3) := by decide +kernel
theorem dX11_init_45 : decode cX11_init 45 = .ok (.putfield 32, 3) := by decide +kernel
theorem dX11_init_48 : decode cX11_init 48 = .ok (.aload_n 0, 1) := by decide +kernel
theorem dX11_init_49 : decode cX11_init 49 = .ok (.aload_n 0, 1) := by decide +kernel
theorem dX11_init_50 : decode cX11_init 50 = .ok (.getfield 24, 3) := by decide +kernel
theorem dX11_init_53 : decode cX11_init 53 = .ok (.getfield 33, 3) := by decide +kernel
theorem dX11_init_56 : decode cX11_init 56 = .ok (.putfield 37, 3) := by decide +kernel
theorem dX11_init_59 : decode cX11_init 59 = .ok (.aload_n 0, 1) := by decide +kernel
theorem dX11_init_60 : decode cX11_init 60 = .ok (.new 38, 3) := by decide +kernel
theorem dX11_init_63 : decode cX11_init 63 = .ok (.dup, 1) := by decide +kernel
theorem dX11_init_64 : decode cX11_init 64 = .ok (.invokespecial 40, 3) := by decide +kernel
theorem dX11_init_67 : decode cX11_init 67 = .ok (.putfield 41, 3) := by decide +kernel
theorem dX11_init_70 : decode cX11_init 70 = .ok (.aload_n 0, 1) := by decide +kernel
theorem dX11_init_71 : decode cX11_init 71 = .ok (.iconst 2, 1) := by decide +kernel
theorem dX11_init_72 : decode cX11_init 72 = .ok (.anewarray 45, 3) := by decide +kernel
theorem dX11_init_75 : decode cX11_init 75 = .ok (.dup, 1) := by decide +kernel
theorem dX11_init_76 : decode cX11_init 76 = .ok (.iconst 0, 1) := by decide +kernel
theorem dX11_init_77 : decode cX11_init 77 = .ok (.new 45, 3) := by decide +kernel
theorem dX11_init_80 : decode cX11_init 80 = .ok (.dup, 1) := by decide +kernel
theorem dX11_init_81 : decode cX11_init 81 = .ok (.invokespecial 47, 3) := by decide +kernel
theorem dX11_init_84 : decode cX11_init 84 = .ok (.aastore, 1) := by decide +kernel
theorem dX11_init_85 : decode cX11_init 85 = .ok (.dup, 1) := by decide +kernel
theorem dX11_init_86 : decode cX11_init 86 = .ok (.iconst 1, 1) := by decide +kernel
theorem dX11_init_87 : decode cX11_init 87 = .ok (.new 45, 3) := by decide +kernel
theorem dX11_init_90 : decode cX11_init 90 = .ok (.dup, 1) := by decide +kernel
theorem dX11_init_91 : decode cX11_init 91 = .ok (.invokespecial 47, 3) := by decide +kernel
theorem dX11_init_94 : decode cX11_init 94 = .ok (.aastore, 1) := by decide +kernel
theorem dX11_init_95 : decode cX11_init 95 = .ok (.putfield 48, 3) := by decide +kernel
theorem dX11_init_98 : decode cX11_init 98 = .ok (.aload_n 0, 1) := by decide +kernel
theorem dX11_init_99 : decode cX11_init 99 = .ok (.iconst 2, 1) := by decide +kernel
theorem dX11_init_100 : decode cX11_init 100 = .ok (.newarray .boolean, 2) := by decide +kernel
theorem dX11_init_102 : decode cX11_init 102 = .ok (.putfield 52, 3) := by decide +kernel
theorem dX11_init_105 : decode cX11_init 105 = .ok (.aload_n 0, 1) := by decide +kernel
theorem dX11_init_106 : decode cX11_init 106 = .ok (.new 56, 3) := by decide +kernel
theorem dX11_init_109 : decode cX11_init 109 = .ok (.dup, 1) := by decide +kernel
theorem dX11_init_110 : decode cX11_init 110 = .ok (.invokespecial 58, 3) := by decide +kernel
theorem dX11_init_113 : decode cX11_init 113 = .ok (.putfield 59, 3) := by decide +kernel
theorem dX11_init_116 : decode cX11_init 116 = .ok (.aload_n 0, 1) := by decide +kernel
theorem dX11_init_117 : decode cX11_init 117 = .ok (.bipush (-2), 2) := by decide +kernel
theorem dX11_init_119 : decode cX11_init 119 = .ok (.putfield 63, 3) := by decide +kernel
theorem dX11_init_122 : decode cX11_init 122 = .ok (.aload_n 0, 1) := by decide +kernel
theorem dX11_init_123 : decode cX11_init 123 = .ok (.getfield 24, 3) := by decide +kernel
theorem dX11_init_126 : decode cX11_init 126 = .ok (.invokevirtual 67, 3) := by decide +kernel
theorem dX11_init_129 : decode cX11_init 129 = .ok (.return_, 1) := by decide +kernel
theorem dX11_append_0 : decode cX11_append 0 = .ok (.aload_n 0, 1) := by decide +kernel
theorem dX11_append_1 : decode cX11_append 1 = .ok (.getfield 20, 3) := by decide +kernel
theorem dX11_append_4 : decode cX11_append 4 = .ok (.invokevirtual 70, 3) := by decide +kernel
theorem dX11_append_7 : decode cX11_append 7 = .ok (.bipush 20, 2) := by decide +kernel
theorem dX11_append_9 : decode cX11_append 9 = .ok (.iadd, 1) := by decide +kernel
theorem dX11_append_10 : decode cX11_append 10 = .ok (.sipush 800, 3) := by decide +kernel
theorem dX11_append_13 : decode cX11_append 13 = .ok (.if_icmp .le 5, 3) := by decide +kernel
theorem dX11_append_16 : decode cX11_append 16 = .ok (.iconst (-1), 1) := by decide +kernel
theorem dX11_append_17 : decode cX11_append 17 = .ok (.ireturn, 1) := by decide +kernel
theorem dX11_append_18 : decode cX11_append 18 = .ok (.aload_n 0, 1) := by decide +kernel
theorem dX11_append_19 : decode cX11_append 19 = .ok (.getfield 20, 3) := by decide +kernel
theorem dX11_append_22 : decode cX11_append 22 = .ok (.iload_n 1, 1) := by decide +kernel
theorem dX11_append_23 : decode cX11_append 23 = .ok (.invokevirtual 76, 3) := by decide +kernel
theorem dX11_append_26 : decode cX11_append 26 = .ok (.aload_n 0, 1) := by decide +kernel
theorem dX11_append_27 : decode cX11_append 27 = .ok (.getfield 20, 3) := by decide +kernel
theorem dX11_append_30 : decode cX11_append 30 = .ok (.iload_n 2, 1) := by decide +kernel
theorem dX11_append_31 : decode cX11_append 31 = .ok (.invokevirtual 76, 3) := by decide +kernel
theorem dX11_append_34 : decode cX11_append 34 = .ok (.aload_n 0, 1) := by decide +kernel
theorem dX11_append_35 : decode cX11_append 35 = .ok (.getfield 20, 3) := by decide +kernel
theorem dX11_append_38 : decode cX11_append 38 = .ok (.iload_n 3, 1) := by decide +kernel
theorem dX11_append_39 : decode cX11_append 39 = .ok (.invokevirtual 76, 3) := by decide +kernel
theorem dX11_append_42 : decode cX11_append 42 = .ok (.aload_n 0, 1) := by decide +kernel
theorem dX11_append_43 : decode cX11_append 43 = .ok (.getfield 20, 3) := by decide +kernel
theorem dX11_append_46 : decode cX11_append 46 = .ok (.iload 4, 2) := by decide +kernel
theorem dX11_append_48 : decode cX11_append 48 = .ok (.invokevirtual 76, 3) := by decide +kernel
theorem dX11_append_51 : decode cX11_append 51 = .ok (.aload_n 0, 1) := by decide +kernel
theorem dX11_append_52 : decode cX11_append 52 = .ok (.getfield 20, 3) := by decide +kernel
theorem dX11_append_55 : decode cX11_append 55 = .ok (.iload 5, 2) := by decide +kernel
theorem dX11_append_57 : decode cX11_append 57 = .ok (.invokevirtual 76, 3) := by decide +kernel
theorem dX11_append_60 : decode cX11_append 60 = .ok (.aload_n 0, 1) := by decide +kernel
theorem dX11_append_61 : decode cX11_append 61 = .ok (.getfield 20, 3) := by decide +kernel
theorem dX11_append_64 : decode cX11_append 64 = .ok (.invokevirtual 70, 3) := by decide +kernel
theorem dX11_append_67 : decode cX11_append 67 = .ok (.ireturn, 1) := by decide +kernel
theorem dX11_truncate_0 : decode cX11_truncate 0 = .ok (.iload_n 1, 1) := by decide +kernel
theorem dX11_truncate_1 : decode cX11_truncate 1 = .ok (.ifCond .lt 14, 3) := by decide +kernel
theorem dX11_truncate_4 : decode cX11_truncate 4 = .ok (.iload_n 1, 1) := by decide +kernel
theorem dX11_truncate_5 : decode cX11_truncate 5 = .ok (.aload_n 0, 1) := by decide +kernel
theorem dX11_truncate_6 : decode cX11_truncate 6 = .ok (.getfield 20, 3) := by decide +kernel
theorem dX11_truncate_9 : decode cX11_truncate 9 = .ok (.invokevirtual 70, 3) := by decide +kernel
theorem dX11_truncate_12 : decode cX11_truncate 12 = .ok (.if_icmp .le 5, 3) := by decide +kernel
theorem dX11_truncate_15 : decode cX11_truncate 15 = .ok (.iconst (-1), 1) := by decide +kernel
theorem dX11_truncate_16 : decode cX11_truncate 16 = .ok (.ireturn, 1) := by decide +kernel
theorem dX11_truncate_17 : decode cX11_truncate 17 = .ok (.aload_n 0, 1) := by decide +kernel
theorem dX11_truncate_18 : decode cX11_truncate 18 = .ok (.getfield 20, 3) := by decide +kernel
theorem dX11_truncate_21 : decode cX11_truncate 21 = .ok (.aload_n 0, 1) := by decide +kernel
theorem dX11_truncate_22 : decode cX11_truncate 22 = .ok (.getfield 20, 3) := by decide +kernel
theorem dX11_truncate_25 : decode cX11_truncate 25 = .ok (.invokevirtual 70, 3) := by decide +kernel
theorem dX11_truncate_28 : decode cX11_truncate 28 = .ok (.iload_n 1, 1) := by decide +kernel
theorem dX11_truncate_29 : decode cX11_truncate 29 = .ok (.isub, 1) := by decide +kernel
theorem dX11_truncate_30 : decode cX11_truncate 30 = .ok (.invokevirtual 80, 3) := by decide +kernel
theorem dX11_truncate_33 : decode cX11_truncate 33 = .ok (.aload_n 0, 1) := by decide +kernel
theorem dX11_truncate_34 : decode cX11_truncate 34 = .ok (.getfield 20, 3) := by decide +kernel
theorem dX11_truncate_37 : decode cX11_truncate 37 = .ok (.invokevirtual 70, 3) := by decide +kernel
theorem dX11_truncate_40 : decode cX11_truncate 40 = .ok (.ireturn, 1) := by decide +kernel
theorem dX11_load_0 : decode cX11_load 0 = .ok (.aload_n 0, 1) := by decide +kernel
theorem dX11_load_1 : decode cX11_load 1 = .ok (.aload_n 0, 1) := by decide +kernel
theorem dX11_load_2 : decode cX11_load 2 = .ok (.getfield 10, 3) := by decide +kernel
theorem dX11_load_5 : decode cX11_load 5 = .ok (.invokevirtual 83, 3) := by decide +kernel
theorem dX11_load_8 : decode cX11_load 8 = .ok (.putfield 63, 3) := by decide +kernel
theorem dX11_load_11 : decode cX11_load 11 = .ok (.aload_n 0, 1) := by decide +kernel
theorem dX11_load_12 : decode cX11_load 12 = .ok (.getfield 20, 3) := by decide +kernel
theorem dX11_load_15 : decode cX11_load 15 = .ok (.iconst 0, 1) := by decide +kernel
theorem dX11_load_16 : decode cX11_load 16 = .ok (.invokevirtual 80, 3) := by decide +kernel
theorem dX11_load_19 : decode cX11_load 19 = .ok (.aload_n 0, 1) := by decide +kernel
theorem dX11_load_20 : decode cX11_load 20 = .ok (.getfield 63, 3) := by decide +kernel
theorem dX11_load_23 : decode cX11_load 23 = .ok (.bipush (-2), 2) := by decide +kernel
theorem dX11_load_25 : decode cX11_load 25 = .ok (.if_icmp .eq 5, 3) := by decide +kernel
theorem dX11_load_28 : decode cX11_load 28 = .ok (.iconst (-1), 1) := by decide +kernel
theorem dX11_load_29 : decode cX11_load 29 = .ok (.ireturn, 1) := by decide +kernel
theorem dX11_load_30 : decode cX11_load 30 = .ok (.aload_n 0, 1) := by decide +kernel
theorem dX11_load_31 : decode cX11_load 31 = .ok (.getfield 24, 3) := by decide +kernel
theorem dX11_load_34 : decode cX11_load 34 = .ok (.aload_n 0, 1) := by decide +kernel
theorem dX11_load_35 : decode cX11_load 35 = .ok (.getfield 10, 3) := by decide +kernel
theorem dX11_load_38 : decode cX11_load 38 = .ok (.getfield 86, 3) := by decide +kernel
theorem dX11_load_41 : decode cX11_load 41 = .ok (.invokevirtual 89, 3) := by decide +kernel
theorem dX11_load_44 : decode cX11_load 44 = .ok (.aload_n 0, 1) := by decide +kernel
theorem dX11_load_45 : decode cX11_load 45 = .ok (.getfield 41, 3) := by decide +kernel
theorem dX11_load_48 : decode cX11_load 48 = .ok (.invokevirtual 93, 3) := by decide +kernel
theorem dX11_load_51 : decode cX11_load 51 = .ok (.iconst 0, 1) := by decide +kernel
theorem dX11_load_52 : decode cX11_load 52 = .ok (.istore_n 1, 1) := by decide +kernel
theorem dX11_load_53 : decode cX11_load 53 = .ok (.iload_n 1, 1) := by decide +kernel
theorem dX11_load_54 : decode cX11_load 54 = .ok (.aload_n 0, 1) := by decide +kernel
theorem dX11_load_55 : decode cX11_load 55 = .ok (.getfield 52, 3) := by decide +kernel
theorem dX11_load_58 : decode cX11_load 58 = .ok (.arraylength, 1) := by decide +kernel
theorem dX11_load_59 : decode cX11_load 59 = .ok (.if_icmp .ge 16, 3) := by decide +kernel
theorem dX11_load_62 : decode cX11_load 62 = .ok (.aload_n 0, 1) := by decide +kernel
theorem dX11_load_63 : decode cX11_load 63 = .ok (.getfield 52, 3) := by decide +kernel
theorem dX11_load_66 : decode cX11_load 66 = .ok (.iload_n 1, 1) := by decide +kernel
theorem dX11_load_67 : decode cX11_load 67 = .ok (.iconst 0, 1) := by decide +kernel
theorem dX11_load_68 : decode cX11_load 68 = .ok (.bastore, 1) := by decide +kernel
theorem dX11_load_69 : decode cX11_load 69 = .ok (.iinc 1 1, 3) := by decide +kernel
theorem dX11_load_72 : decode cX11_load 72 = .ok (.goto (-19), 3) := by decide +kernel
theorem dX11_load_75 : decode cX11_load 75 = .ok (.aload_n 0, 1) := by decide +kernel
theorem dX11_load_76 : decode cX11_load 76 = .ok (.getfield 32, 3) := by decide +kernel
theorem dX11_load_79 : decode cX11_load 79 = .ok (.invokevirtual 96, 3) := by decide +kernel
theorem dX11_load_82 : decode cX11_load 82 = .ok (.ireturn, 1) := by decide +kernel
theorem dX11_errorPosition_0 : decode cX11_errorPosition 0 = .ok (.aload_n 0, 1) := by decide +kernel
theorem dX11_errorPosition_1 : decode cX11_errorPosition 1 = .ok (.getfield 63, 3) := by decide +kernel
theorem dX11_errorPosition_4 : decode cX11_errorPosition 4 = .ok (.ireturn, 1) := by decide +kernel
theorem dX11_sail_0 : decode cX11_sail 0 = .ok (.aload_n 0, 1) := by decide +kernel
theorem dX11_sail_1 : decode cX11_sail 1 = .ok (.iload_n 1, 1) := by decide +kernel
theorem dX11_sail_2 : decode cX11_sail 2 = .ok (.invokevirtual 101, 3) := by decide +kernel
theorem dX11_sail_5 : decode cX11_sail 5 = .ok (.ifCond .eq 10, 3) := by decide +kernel
theorem dX11_sail_8 : decode cX11_sail 8 = .ok (.iload_n 2, 1) := by decide +kernel
theorem dX11_sail_9 : decode cX11_sail 9 = .ok (.invokestatic 105, 3) := by decide +kernel
theorem dX11_sail_12 : decode cX11_sail 12 = .ok (.ifCond .ne 5, 3) := by decide +kernel
theorem dX11_sail_15 : decode cX11_sail 15 = .ok (.iconst (-1), 1) := by decide +kernel
theorem dX11_sail_16 : decode cX11_sail 16 = .ok (.ireturn, 1) := by decide +kernel
theorem dX11_sail_17 : decode cX11_sail 17 = .ok (.aload_n 0, 1) := by decide +kernel
theorem dX11_sail_18 : decode cX11_sail 18 = .ok (.getfield 37, 3) := by decide +kernel
theorem dX11_sail_21 : decode cX11_sail 21 = .ok (.getfield 108, 3) := by decide +kernel
theorem dX11_sail_24 : decode cX11_sail 24 = .ok (.iload_n 1, 1) := by decide +kernel
theorem dX11_sail_25 : decode cX11_sail 25 = .ok (.invokevirtual 112, 3) := by decide +kernel
theorem dX11_sail_28 : decode cX11_sail 28 = .ok (.ifCond .eq 6, 3) := by decide +kernel
theorem dX11_sail_31 : decode cX11_sail 31 = .ok (.bipush (-4), 2) := by decide +kernel
theorem dX11_sail_33 : decode cX11_sail 33 = .ok (.ireturn, 1) := by decide +kernel
theorem dX11_sail_34 : decode cX11_sail 34 = .ok (.aload_n 0, 1) := by decide +kernel
theorem dX11_sail_35 : decode cX11_sail 35 = .ok (.getfield 41, 3) := by decide +kernel
theorem dX11_sail_38 : decode cX11_sail 38 = .ok (.aload_n 0, 1) := by decide +kernel
theorem dX11_sail_39 : decode cX11_sail 39 = .ok (.getfield 37, 3) := by decide +kernel
theorem dX11_sail_42 : decode cX11_sail 42 = .ok (.invokevirtual 117, 3) := by decide +kernel
theorem dX11_sail_45 : decode cX11_sail 45 = .ok (.aload_n 0, 1) := by decide +kernel
theorem dX11_sail_46 : decode cX11_sail 46 = .ok (.getfield 24, 3) := by decide +kernel
theorem dX11_sail_49 : decode cX11_sail 49 = .ok (.iload_n 1, 1) := by decide +kernel
theorem dX11_sail_50 : decode cX11_sail 50 = .ok (.iload_n 2, 1) := by decide +kernel
theorem dX11_sail_51 : decode cX11_sail 51 = .ok (.invokevirtual 121, 3) := by decide +kernel
theorem dX11_sail_54 : decode cX11_sail 54 = .ok (.ireturn, 1) := by decide +kernel
theorem dX11_delay_0 : decode cX11_delay 0 = .ok (.aload_n 0, 1) := by decide +kernel
theorem dX11_delay_1 : decode cX11_delay 1 = .ok (.iload_n 1, 1) := by decide +kernel
theorem dX11_delay_2 : decode cX11_delay 2 = .ok (.invokevirtual 101, 3) := by decide +kernel
theorem dX11_delay_5 : decode cX11_delay 5 = .ok (.ifCond .eq 10, 3) := by decide +kernel
theorem dX11_delay_8 : decode cX11_delay 8 = .ok (.iload_n 2, 1) := by decide +kernel
theorem dX11_delay_9 : decode cX11_delay 9 = .ok (.invokestatic 105, 3) := by decide +kernel
theorem dX11_delay_12 : decode cX11_delay 12 = .ok (.ifCond .ne 5, 3) := by decide +kernel
theorem dX11_delay_15 : decode cX11_delay 15 = .ok (.iconst (-1), 1) := by decide +kernel
theorem dX11_delay_16 : decode cX11_delay 16 = .ok (.ireturn, 1) := by decide +kernel
theorem dX11_delay_17 : decode cX11_delay 17 = .ok (.aload_n 0, 1) := by decide +kernel
theorem dX11_delay_18 : decode cX11_delay 18 = .ok (.getfield 37, 3) := by decide +kernel
theorem dX11_delay_21 : decode cX11_delay 21 = .ok (.getfield 108, 3) := by decide +kernel
theorem dX11_delay_24 : decode cX11_delay 24 = .ok (.iload_n 1, 1) := by decide +kernel
theorem dX11_delay_25 : decode cX11_delay 25 = .ok (.invokevirtual 112, 3) := by decide +kernel
theorem dX11_delay_28 : decode cX11_delay 28 = .ok (.ifCond .ne 6, 3) := by decide +kernel
theorem dX11_delay_31 : decode cX11_delay 31 = .ok (.bipush (-4), 2) := by decide +kernel
theorem dX11_delay_33 : decode cX11_delay 33 = .ok (.ireturn, 1) := by decide +kernel
theorem dX11_delay_34 : decode cX11_delay 34 = .ok (.aload_n 0, 1) := by decide +kernel
theorem dX11_delay_35 : decode cX11_delay 35 = .ok (.getfield 41, 3) := by decide +kernel
theorem dX11_delay_38 : decode cX11_delay 38 = .ok (.aload_n 0, 1) := by decide +kernel
theorem dX11_delay_39 : decode cX11_delay 39 = .ok (.getfield 37, 3) := by decide +kernel
theorem dX11_delay_42 : decode cX11_delay 42 = .ok (.invokevirtual 117, 3) := by decide +kernel
theorem dX11_delay_45 : decode cX11_delay 45 = .ok (.aload_n 0, 1) := by decide +kernel
theorem dX11_delay_46 : decode cX11_delay 46 = .ok (.getfield 37, 3) := by decide +kernel
theorem dX11_delay_49 : decode cX11_delay 49 = .ok (.getfield 108, 3) := by decide +kernel
theorem dX11_delay_52 : decode cX11_delay 52 = .ok (.iload_n 1, 1) := by decide +kernel
theorem dX11_delay_53 : decode cX11_delay 53 = .ok (.iload_n 2, 1) := by decide +kernel
theorem dX11_delay_54 : decode cX11_delay 54 = .ok (.invokevirtual 125, 3) := by decide +kernel
theorem dX11_delay_57 : decode cX11_delay 57 = .ok (.aload_n 0, 1) := by decide +kernel
theorem dX11_delay_58 : decode cX11_delay 58 = .ok (.getfield 37, 3) := by decide +kernel
theorem dX11_delay_61 : decode cX11_delay 61 = .ok (.getfield 108, 3) := by decide +kernel
theorem dX11_delay_64 : decode cX11_delay 64 = .ok (.iload_n 1, 1) := by decide +kernel
theorem dX11_delay_65 : decode cX11_delay 65 = .ok (.invokevirtual 129, 3) := by decide +kernel
theorem dX11_delay_68 : decode cX11_delay 68 = .ok (.ireturn, 1) := by decide +kernel
theorem dX11_comeHome_0 : decode cX11_comeHome 0 = .ok (.aload_n 0, 1) := by decide +kernel
theorem dX11_comeHome_1 : decode cX11_comeHome 1 = .ok (.iload_n 1, 1) := by decide +kernel
theorem dX11_comeHome_2 : decode cX11_comeHome 2 = .ok (.invokevirtual 101, 3) := by decide +kernel
theorem dX11_comeHome_5 : decode cX11_comeHome 5 = .ok (.ifCond .ne 5, 3) := by decide +kernel
theorem dX11_comeHome_8 : decode cX11_comeHome 8 = .ok (.iconst (-1), 1) := by decide +kernel
theorem dX11_comeHome_9 : decode cX11_comeHome 9 = .ok (.ireturn, 1) := by decide +kernel
theorem dX11_comeHome_10 : decode cX11_comeHome 10 = .ok (.aload_n 0, 1) := by decide +kernel
theorem dX11_comeHome_11 : decode cX11_comeHome 11 = .ok (.getfield 37, 3) := by decide +kernel
theorem dX11_comeHome_14 : decode cX11_comeHome 14 = .ok (.getfield 108, 3) := by decide +kernel
theorem dX11_comeHome_17 : decode cX11_comeHome 17 = .ok (.iload_n 1, 1) := by decide +kernel
theorem dX11_comeHome_18 : decode cX11_comeHome 18 = .ok (.invokevirtual 112, 3) := by decide +kernel
theorem dX11_comeHome_21 : decode cX11_comeHome 21 = .ok (.ifCond .ne 6, 3) := by decide +kernel
theorem dX11_comeHome_24 : decode cX11_comeHome 24 = .ok (.bipush (-4), 2) := by decide +kernel
theorem dX11_comeHome_26 : decode cX11_comeHome 26 = .ok (.ireturn, 1) := by decide +kernel
theorem dX11_comeHome_27 : decode cX11_comeHome 27 = .ok (.aload_n 0, 1) := by decide +kernel
theorem dX11_comeHome_28 : decode cX11_comeHome 28 = .ok (.getfield 41, 3) := by decide +kernel
theorem dX11_comeHome_31 : decode cX11_comeHome 31 = .ok (.aload_n 0, 1) := by decide +kernel
theorem dX11_comeHome_32 : decode cX11_comeHome 32 = .ok (.getfield 37, 3) := by decide +kernel
theorem dX11_comeHome_35 : decode cX11_comeHome 35 = .ok (.invokevirtual 117, 3) := by decide +kernel
theorem dX11_comeHome_38 : decode cX11_comeHome 38 = .ok (.aload_n 0, 1) := by decide +kernel
theorem dX11_comeHome_39 : decode cX11_comeHome 39 = .ok (.getfield 24, 3) := by decide +kernel
theorem dX11_comeHome_42 : decode cX11_comeHome 42 = .ok (.iload_n 1, 1) := by decide +kernel
theorem dX11_comeHome_43 : decode cX11_comeHome 43 = .ok (.invokevirtual 133, 3) := by decide +kernel
theorem dX11_comeHome_46 : decode cX11_comeHome 46 = .ok (.ireturn, 1) := by decide +kernel
theorem dX11_join_0 : decode cX11_join 0 = .ok (.aload_n 0, 1) := by decide +kernel
theorem dX11_join_1 : decode cX11_join 1 = .ok (.iload_n 1, 1) := by decide +kernel
theorem dX11_join_2 : decode cX11_join 2 = .ok (.invokevirtual 136, 3) := by decide +kernel
theorem dX11_join_5 : decode cX11_join 5 = .ok (.ifCond .eq 17, 3) := by decide +kernel
theorem dX11_join_8 : decode cX11_join 8 = .ok (.iload_n 2, 1) := by decide +kernel
theorem dX11_join_9 : decode cX11_join 9 = .ok (.bipush (-2), 2) := by decide +kernel
theorem dX11_join_11 : decode cX11_join 11 = .ok (.if_icmp .eq 13, 3) := by decide +kernel
theorem dX11_join_14 : decode cX11_join 14 = .ok (.aload_n 0, 1) := by decide +kernel
theorem dX11_join_15 : decode cX11_join 15 = .ok (.iload_n 2, 1) := by decide +kernel
theorem dX11_join_16 : decode cX11_join 16 = .ok (.invokevirtual 101, 3) := by decide +kernel
theorem dX11_join_19 : decode cX11_join 19 = .ok (.ifCond .ne 5, 3) := by decide +kernel
theorem dX11_join_22 : decode cX11_join 22 = .ok (.iconst (-1), 1) := by decide +kernel
theorem dX11_join_23 : decode cX11_join 23 = .ok (.ireturn, 1) := by decide +kernel
theorem dX11_join_24 : decode cX11_join 24 = .ok (.aload_n 0, 1) := by decide +kernel
theorem dX11_join_25 : decode cX11_join 25 = .ok (.getfield 37, 3) := by decide +kernel
theorem dX11_join_28 : decode cX11_join 28 = .ok (.getfield 108, 3) := by decide +kernel
theorem dX11_join_31 : decode cX11_join 31 = .ok (.iload_n 1, 1) := by decide +kernel
theorem dX11_join_32 : decode cX11_join 32 = .ok (.invokevirtual 139, 3) := by decide +kernel
theorem dX11_join_35 : decode cX11_join 35 = .ok (.ifCond .eq 6, 3) := by decide +kernel
theorem dX11_join_38 : decode cX11_join 38 = .ok (.bipush (-3), 2) := by decide +kernel
theorem dX11_join_40 : decode cX11_join 40 = .ok (.ireturn, 1) := by decide +kernel
theorem dX11_join_41 : decode cX11_join 41 = .ok (.aload_n 0, 1) := by decide +kernel
theorem dX11_join_42 : decode cX11_join 42 = .ok (.getfield 37, 3) := by decide +kernel
theorem dX11_join_45 : decode cX11_join 45 = .ok (.getfield 108, 3) := by decide +kernel
theorem dX11_join_48 : decode cX11_join 48 = .ok (.iload_n 1, 1) := by decide +kernel
theorem dX11_join_49 : decode cX11_join 49 = .ok (.invokevirtual 142, 3) := by decide +kernel
theorem dX11_join_52 : decode cX11_join 52 = .ok (.istore_n 3, 1) := by decide +kernel
theorem dX11_join_53 : decode cX11_join 53 = .ok (.iload_n 3, 1) := by decide +kernel
theorem dX11_join_54 : decode cX11_join 54 = .ok (.iload_n 2, 1) := by decide +kernel
theorem dX11_join_55 : decode cX11_join 55 = .ok (.if_icmp .ne 6, 3) := by decide +kernel
theorem dX11_join_58 : decode cX11_join 58 = .ok (.bipush (-2), 2) := by decide +kernel
theorem dX11_join_60 : decode cX11_join 60 = .ok (.ireturn, 1) := by decide +kernel
theorem dX11_join_61 : decode cX11_join 61 = .ok (.aload_n 0, 1) := by decide +kernel
theorem dX11_join_62 : decode cX11_join 62 = .ok (.getfield 41, 3) := by decide +kernel
theorem dX11_join_65 : decode cX11_join 65 = .ok (.aload_n 0, 1) := by decide +kernel
theorem dX11_join_66 : decode cX11_join 66 = .ok (.getfield 37, 3) := by decide +kernel
theorem dX11_join_69 : decode cX11_join 69 = .ok (.invokevirtual 117, 3) := by decide +kernel
theorem dX11_join_72 : decode cX11_join 72 = .ok (.aload_n 0, 1) := by decide +kernel
theorem dX11_join_73 : decode cX11_join 73 = .ok (.getfield 37, 3) := by decide +kernel
theorem dX11_join_76 : decode cX11_join 76 = .ok (.getfield 108, 3) := by decide +kernel
theorem dX11_join_79 : decode cX11_join 79 = .ok (.iload_n 1, 1) := by decide +kernel
theorem dX11_join_80 : decode cX11_join 80 = .ok (.iload_n 2, 1) := by decide +kernel
theorem dX11_join_81 : decode cX11_join 81 = .ok (.invokevirtual 145, 3) := by decide +kernel
theorem dX11_join_84 : decode cX11_join 84 = .ok (.iload_n 3, 1) := by decide +kernel
theorem dX11_join_85 : decode cX11_join 85 = .ok (.bipush (-2), 2) := by decide +kernel
theorem dX11_join_87 : decode cX11_join 87 = .ok (.if_icmp .ne 7, 3) := by decide +kernel
theorem dX11_join_90 : decode cX11_join 90 = .ok (.iconst 0, 1) := by decide +kernel
theorem dX11_join_91 : decode cX11_join 91 = .ok (.goto 6, 3) := by decide +kernel
theorem dX11_join_94 : decode cX11_join 94 = .ok (.iload_n 3, 1) := by decide +kernel
theorem dX11_join_95 : decode cX11_join 95 = .ok (.iconst 1, 1) := by decide +kernel
theorem dX11_join_96 : decode cX11_join 96 = .ok (.iadd, 1) := by decide +kernel
theorem dX11_join_97 : decode cX11_join 97 = .ok (.ireturn, 1) := by decide +kernel
theorem dX11_open_0 : decode cX11_open 0 = .ok (.iload_n 1, 1) := by decide +kernel
theorem dX11_open_1 : decode cX11_open 1 = .ok (.iconst 2, 1) := by decide +kernel
theorem dX11_open_2 : decode cX11_open 2 = .ok (.if_icmp .lt 8, 3) := by decide +kernel
theorem dX11_open_5 : decode cX11_open 5 = .ok (.iload_n 1, 1) := by decide +kernel
theorem dX11_open_6 : decode cX11_open 6 = .ok (.iconst 4, 1) := by decide +kernel
theorem dX11_open_7 : decode cX11_open 7 = .ok (.if_icmp .le 5, 3) := by decide +kernel
theorem dX11_open_10 : decode cX11_open 10 = .ok (.iconst (-1), 1) := by decide +kernel
theorem dX11_open_11 : decode cX11_open 11 = .ok (.ireturn, 1) := by decide +kernel
theorem dX11_open_12 : decode cX11_open 12 = .ok (.aload_n 0, 1) := by decide +kernel
theorem dX11_open_13 : decode cX11_open 13 = .ok (.getfield 24, 3) := by decide +kernel
theorem dX11_open_16 : decode cX11_open 16 = .ok (.invokevirtual 148, 3) := by decide +kernel
theorem dX11_open_19 : decode cX11_open 19 = .ok (.ifCond .eq 6, 3) := by decide +kernel
theorem dX11_open_22 : decode cX11_open 22 = .ok (.bipush (-5), 2) := by decide +kernel
theorem dX11_open_24 : decode cX11_open 24 = .ok (.ireturn, 1) := by decide +kernel
theorem dX11_open_25 : decode cX11_open 25 = .ok (.aload_n 0, 1) := by decide +kernel
theorem dX11_open_26 : decode cX11_open 26 = .ok (.getfield 41, 3) := by decide +kernel
theorem dX11_open_29 : decode cX11_open 29 = .ok (.aload_n 0, 1) := by decide +kernel
theorem dX11_open_30 : decode cX11_open 30 = .ok (.getfield 37, 3) := by decide +kernel
theorem dX11_open_33 : decode cX11_open 33 = .ok (.invokevirtual 117, 3) := by decide +kernel
theorem dX11_open_36 : decode cX11_open 36 = .ok (.aload_n 0, 1) := by decide +kernel
theorem dX11_open_37 : decode cX11_open 37 = .ok (.getfield 24, 3) := by decide +kernel
theorem dX11_open_40 : decode cX11_open 40 = .ok (.iload_n 1, 1) := by decide +kernel
theorem dX11_open_41 : decode cX11_open 41 = .ok (.invokevirtual 152, 3) := by decide +kernel
theorem dX11_open_44 : decode cX11_open 44 = .ok (.ireturn, 1) := by decide +kernel
theorem dX11_give_0 : decode cX11_give 0 = .ok (.aload_n 0, 1) := by decide +kernel
theorem dX11_give_1 : decode cX11_give 1 = .ok (.iload_n 1, 1) := by decide +kernel
theorem dX11_give_2 : decode cX11_give 2 = .ok (.invokevirtual 136, 3) := by decide +kernel
theorem dX11_give_5 : decode cX11_give 5 = .ok (.ifCond .eq 16, 3) := by decide +kernel
theorem dX11_give_8 : decode cX11_give 8 = .ok (.aload_n 0, 1) := by decide +kernel
theorem dX11_give_9 : decode cX11_give 9 = .ok (.iload_n 2, 1) := by decide +kernel
theorem dX11_give_10 : decode cX11_give 10 = .ok (.invokevirtual 136, 3) := by decide +kernel
theorem dX11_give_13 : decode cX11_give 13 = .ok (.ifCond .eq 8, 3) := by decide +kernel
theorem dX11_give_16 : decode cX11_give 16 = .ok (.iload_n 1, 1) := by decide +kernel
theorem dX11_give_17 : decode cX11_give 17 = .ok (.iload_n 2, 1) := by decide +kernel
theorem dX11_give_18 : decode cX11_give 18 = .ok (.if_icmp .ne 5, 3) := by decide +kernel
theorem dX11_give_21 : decode cX11_give 21 = .ok (.iconst (-1), 1) := by decide +kernel
theorem dX11_give_22 : decode cX11_give 22 = .ok (.ireturn, 1) := by decide +kernel
theorem dX11_give_23 : decode cX11_give 23 = .ok (.iload_n 3, 1) := by decide +kernel
theorem dX11_give_24 : decode cX11_give 24 = .ok (.bipush (-2), 2) := by decide +kernel
theorem dX11_give_26 : decode cX11_give 26 = .ok (.if_icmp .eq 12, 3) := by decide +kernel
theorem dX11_give_29 : decode cX11_give 29 = .ok (.iload_n 3, 1) := by decide +kernel
theorem dX11_give_30 : decode cX11_give 30 = .ok (.invokestatic 155, 3) := by decide +kernel
theorem dX11_give_33 : decode cX11_give 33 = .ok (.ifCond .ne 5, 3) := by decide +kernel
theorem dX11_give_36 : decode cX11_give 36 = .ok (.iconst (-1), 1) := by decide +kernel
theorem dX11_give_37 : decode cX11_give 37 = .ok (.ireturn, 1) := by decide +kernel
theorem dX11_give_38 : decode cX11_give 38 = .ok (.aload_n 0, 1) := by decide +kernel
theorem dX11_give_39 : decode cX11_give 39 = .ok (.getfield 37, 3) := by decide +kernel
theorem dX11_give_42 : decode cX11_give 42 = .ok (.getfield 108, 3) := by decide +kernel
theorem dX11_give_45 : decode cX11_give 45 = .ok (.iload_n 1, 1) := by decide +kernel
theorem dX11_give_46 : decode cX11_give 46 = .ok (.invokevirtual 139, 3) := by decide +kernel
theorem dX11_give_49 : decode cX11_give 49 = .ok (.ifCond .ne 17, 3) := by decide +kernel
theorem dX11_give_52 : decode cX11_give 52 = .ok (.aload_n 0, 1) := by decide +kernel
theorem dX11_give_53 : decode cX11_give 53 = .ok (.getfield 37, 3) := by decide +kernel
theorem dX11_give_56 : decode cX11_give 56 = .ok (.getfield 108, 3) := by decide +kernel
theorem dX11_give_59 : decode cX11_give 59 = .ok (.iload_n 2, 1) := by decide +kernel
theorem dX11_give_60 : decode cX11_give 60 = .ok (.invokevirtual 139, 3) := by decide +kernel
theorem dX11_give_63 : decode cX11_give 63 = .ok (.ifCond .eq 6, 3) := by decide +kernel
theorem dX11_give_66 : decode cX11_give 66 = .ok (.bipush (-3), 2) := by decide +kernel
theorem dX11_give_68 : decode cX11_give 68 = .ok (.ireturn, 1) := by decide +kernel
theorem dX11_give_69 : decode cX11_give 69 = .ok (.aload_n 0, 1) := by decide +kernel
theorem dX11_give_70 : decode cX11_give 70 = .ok (.getfield 37, 3) := by decide +kernel
theorem dX11_give_73 : decode cX11_give 73 = .ok (.getfield 158, 3) := by decide +kernel
theorem dX11_give_76 : decode cX11_give 76 = .ok (.iload_n 1, 1) := by decide +kernel
theorem dX11_give_77 : decode cX11_give 77 = .ok (.invokevirtual 162, 3) := by decide +kernel
theorem dX11_give_80 : decode cX11_give 80 = .ok (.ifCond .eq 6, 3) := by decide +kernel
theorem dX11_give_83 : decode cX11_give 83 = .ok (.bipush (-4), 2) := by decide +kernel
theorem dX11_give_85 : decode cX11_give 85 = .ok (.ireturn, 1) := by decide +kernel
theorem dX11_give_86 : decode cX11_give 86 = .ok (.aload_n 0, 1) := by decide +kernel
theorem dX11_give_87 : decode cX11_give 87 = .ok (.getfield 41, 3) := by decide +kernel
theorem dX11_give_90 : decode cX11_give 90 = .ok (.aload_n 0, 1) := by decide +kernel
theorem dX11_give_91 : decode cX11_give 91 = .ok (.getfield 37, 3) := by decide +kernel
theorem dX11_give_94 : decode cX11_give 94 = .ok (.invokevirtual 117, 3) := by decide +kernel
theorem dX11_give_97 : decode cX11_give 97 = .ok (.aload_n 0, 1) := by decide +kernel
theorem dX11_give_98 : decode cX11_give 98 = .ok (.getfield 37, 3) := by decide +kernel
theorem dX11_give_101 : decode cX11_give 101 = .ok (.getfield 158, 3) := by decide +kernel
theorem dX11_give_104 : decode cX11_give 104 = .ok (.iload_n 1, 1) := by decide +kernel
theorem dX11_give_105 : decode cX11_give 105 = .ok (.iload_n 2, 1) := by decide +kernel
theorem dX11_give_106 : decode cX11_give 106 = .ok (.iload_n 3, 1) := by decide +kernel
theorem dX11_give_107 : decode cX11_give 107 = .ok (.invokevirtual 167, 3) := by decide +kernel
theorem dX11_give_110 : decode cX11_give 110 = .ok (.aload_n 0, 1) := by decide +kernel
theorem dX11_give_111 : decode cX11_give 111 = .ok (.getfield 37, 3) := by decide +kernel
theorem dX11_give_114 : decode cX11_give 114 = .ok (.getfield 158, 3) := by decide +kernel
theorem dX11_give_117 : decode cX11_give 117 = .ok (.iload_n 2, 1) := by decide +kernel
theorem dX11_give_118 : decode cX11_give 118 = .ok (.invokevirtual 171, 3) := by decide +kernel
theorem dX11_give_121 : decode cX11_give 121 = .ok (.invokestatic 174, 3) := by decide +kernel
theorem dX11_give_124 : decode cX11_give 124 = .ok (.ireturn, 1) := by decide +kernel
theorem dX11_takeBack_0 : decode cX11_takeBack 0 = .ok (.aload_n 0, 1) := by decide +kernel
theorem dX11_takeBack_1 : decode cX11_takeBack 1 = .ok (.iload_n 1, 1) := by decide +kernel
theorem dX11_takeBack_2 : decode cX11_takeBack 2 = .ok (.invokevirtual 136, 3) := by decide +kernel
theorem dX11_takeBack_5 : decode cX11_takeBack 5 = .ok (.ifCond .ne 5, 3) := by decide +kernel
theorem dX11_takeBack_8 : decode cX11_takeBack 8 = .ok (.iconst (-1), 1) := by decide +kernel
theorem dX11_takeBack_9 : decode cX11_takeBack 9 = .ok (.ireturn, 1) := by decide +kernel
theorem dX11_takeBack_10 : decode cX11_takeBack 10 = .ok (.aload_n 0, 1) := by decide +kernel
theorem dX11_takeBack_11 : decode cX11_takeBack 11 = .ok (.getfield 37, 3) := by decide +kernel
theorem dX11_takeBack_14 : decode cX11_takeBack 14 = .ok (.getfield 158, 3) := by decide +kernel
theorem dX11_takeBack_17 : decode cX11_takeBack 17 = .ok (.iload_n 1, 1) := by decide +kernel
theorem dX11_takeBack_18 : decode cX11_takeBack 18 = .ok (.invokevirtual 162, 3) := by decide +kernel
theorem dX11_takeBack_21 : decode cX11_takeBack 21 = .ok (.iconst 1, 1) := by decide +kernel
theorem dX11_takeBack_22 : decode cX11_takeBack 22 = .ok (.if_icmp .ne 7, 3) := by decide +kernel
theorem dX11_takeBack_25 : decode cX11_takeBack 25 = .ok (.iconst 1, 1) := by decide +kernel
theorem dX11_takeBack_26 : decode cX11_takeBack 26 = .ok (.goto 4, 3) := by decide +kernel
theorem dX11_takeBack_29 : decode cX11_takeBack 29 = .ok (.iconst 0, 1) := by decide +kernel
theorem dX11_takeBack_30 : decode cX11_takeBack 30 = .ok (.istore_n 2, 1) := by decide +kernel
theorem dX11_takeBack_31 : decode cX11_takeBack 31 = .ok (.aload_n 0, 1) := by decide +kernel
theorem dX11_takeBack_32 : decode cX11_takeBack 32 = .ok (.getfield 37, 3) := by decide +kernel
theorem dX11_takeBack_35 : decode cX11_takeBack 35 = .ok (.getfield 158, 3) := by decide +kernel
theorem dX11_takeBack_38 : decode cX11_takeBack 38 = .ok (.iload_n 1, 1) := by decide +kernel
theorem dX11_takeBack_39 : decode cX11_takeBack 39 = .ok (.invokevirtual 179, 3) := by decide +kernel
theorem dX11_takeBack_42 : decode cX11_takeBack 42 = .ok (.istore_n 3, 1) := by decide +kernel
theorem dX11_takeBack_43 : decode cX11_takeBack 43 = .ok (.aload_n 0, 1) := by decide +kernel
theorem dX11_takeBack_44 : decode cX11_takeBack 44 = .ok (.getfield 37, 3) := by decide +kernel
theorem dX11_takeBack_47 : decode cX11_takeBack 47 = .ok (.getfield 108, 3) := by decide +kernel
theorem dX11_takeBack_50 : decode cX11_takeBack 50 = .ok (.iload_n 1, 1) := by decide +kernel
theorem dX11_takeBack_51 : decode cX11_takeBack 51 = .ok (.invokevirtual 139, 3) := by decide +kernel
theorem dX11_takeBack_54 : decode cX11_takeBack 54 = .ok (.ifCond .ne 21, 3) := by decide +kernel
theorem dX11_takeBack_57 : decode cX11_takeBack 57 = .ok (.iload_n 2, 1) := by decide +kernel
theorem dX11_takeBack_58 : decode cX11_takeBack 58 = .ok (.ifCond .eq 20, 3) := by decide +kernel
theorem dX11_takeBack_61 : decode cX11_takeBack 61 = .ok (.aload_n 0, 1) := by decide +kernel
theorem dX11_takeBack_62 : decode cX11_takeBack 62 = .ok (.getfield 37, 3) := by decide +kernel
theorem dX11_takeBack_65 : decode cX11_takeBack 65 = .ok (.getfield 108, 3) := by decide +kernel
theorem dX11_takeBack_68 : decode cX11_takeBack 68 = .ok (.iload_n 3, 1) := by decide +kernel
theorem dX11_takeBack_69 : decode cX11_takeBack 69 = .ok (.invokevirtual 139, 3) := by decide +kernel
theorem dX11_takeBack_72 : decode cX11_takeBack 72 = .ok (.ifCond .eq 6, 3) := by decide +kernel
theorem dX11_takeBack_75 : decode cX11_takeBack 75 = .ok (.bipush (-3), 2) := by decide +kernel
theorem dX11_takeBack_77 : decode cX11_takeBack 77 = .ok (.ireturn, 1) := by decide +kernel
theorem dX11_takeBack_78 : decode cX11_takeBack 78 = .ok (.iload_n 2, 1) := by decide +kernel
theorem dX11_takeBack_79 : decode cX11_takeBack 79 = .ok (.ifCond .ne 6, 3) := by decide +kernel
theorem dX11_takeBack_82 : decode cX11_takeBack 82 = .ok (.bipush (-4), 2) := by decide +kernel
theorem dX11_takeBack_84 : decode cX11_takeBack 84 = .ok (.ireturn, 1) := by decide +kernel
theorem dX11_takeBack_85 : decode cX11_takeBack 85 = .ok (.aload_n 0, 1) := by decide +kernel
theorem dX11_takeBack_86 : decode cX11_takeBack 86 = .ok (.getfield 41, 3) := by decide +kernel
theorem dX11_takeBack_89 : decode cX11_takeBack 89 = .ok (.aload_n 0, 1) := by decide +kernel
theorem dX11_takeBack_90 : decode cX11_takeBack 90 = .ok (.getfield 37, 3) := by decide +kernel
theorem dX11_takeBack_93 : decode cX11_takeBack 93 = .ok (.invokevirtual 117, 3) := by decide +kernel
theorem dX11_takeBack_96 : decode cX11_takeBack 96 = .ok (.aload_n 0, 1) := by decide +kernel
theorem dX11_takeBack_97 : decode cX11_takeBack 97 = .ok (.getfield 37, 3) := by decide +kernel
theorem dX11_takeBack_100 : decode cX11_takeBack 100 = .ok (.getfield 158, 3) := by decide +kernel
theorem dX11_takeBack_103 : decode cX11_takeBack 103 = .ok (.iload_n 1, 1) := by decide +kernel
theorem dX11_takeBack_104 : decode cX11_takeBack 104 = .ok (.invokevirtual 182, 3) := by decide +kernel
theorem dX11_takeBack_107 : decode cX11_takeBack 107 = .ok (.iload_n 3, 1) := by decide +kernel
theorem dX11_takeBack_108 : decode cX11_takeBack 108 = .ok (.ireturn, 1) := by decide +kernel
theorem dX11_lay_0 : decode cX11_lay 0 = .ok (.aload_n 0, 1) := by decide +kernel
theorem dX11_lay_1 : decode cX11_lay 1 = .ok (.iload_n 1, 1) := by decide +kernel
theorem dX11_lay_2 : decode cX11_lay 2 = .ok (.iload_n 2, 1) := by decide +kernel
theorem dX11_lay_3 : decode cX11_lay 3 = .ok (.iload_n 3, 1) := by decide +kernel
theorem dX11_lay_4 : decode cX11_lay 4 = .ok (.invokevirtual 185, 3) := by decide +kernel
theorem dX11_lay_7 : decode cX11_lay 7 = .ok (.istore 4, 2) := by decide +kernel
theorem dX11_lay_9 : decode cX11_lay 9 = .ok (.iload 4, 2) := by decide +kernel
theorem dX11_lay_11 : decode cX11_lay 11 = .ok (.ifCond .eq 6, 3) := by decide +kernel
theorem dX11_lay_14 : decode cX11_lay 14 = .ok (.iload 4, 2) := by decide +kernel
theorem dX11_lay_16 : decode cX11_lay 16 = .ok (.ireturn, 1) := by decide +kernel
theorem dX11_lay_17 : decode cX11_lay 17 = .ok (.aload_n 0, 1) := by decide +kernel
theorem dX11_lay_18 : decode cX11_lay 18 = .ok (.getfield 41, 3) := by decide +kernel
theorem dX11_lay_21 : decode cX11_lay 21 = .ok (.aload_n 0, 1) := by decide +kernel
theorem dX11_lay_22 : decode cX11_lay 22 = .ok (.getfield 37, 3) := by decide +kernel
theorem dX11_lay_25 : decode cX11_lay 25 = .ok (.invokevirtual 117, 3) := by decide +kernel
theorem dX11_lay_28 : decode cX11_lay 28 = .ok (.aload_n 0, 1) := by decide +kernel
theorem dX11_lay_29 : decode cX11_lay 29 = .ok (.getfield 24, 3) := by decide +kernel
theorem dX11_lay_32 : decode cX11_lay 32 = .ok (.iload_n 1, 1) := by decide +kernel
theorem dX11_lay_33 : decode cX11_lay 33 = .ok (.iload_n 2, 1) := by decide +kernel
theorem dX11_lay_34 : decode cX11_lay 34 = .ok (.iload_n 3, 1) := by decide +kernel
theorem dX11_lay_35 : decode cX11_lay 35 = .ok (.invokevirtual 189, 3) := by decide +kernel
theorem dX11_lay_38 : decode cX11_lay 38 = .ok (.ireturn, 1) := by decide +kernel
theorem dX11_contest_0 : decode cX11_contest 0 = .ok (.aload_n 0, 1) := by decide +kernel
theorem dX11_contest_1 : decode cX11_contest 1 = .ok (.iload_n 1, 1) := by decide +kernel
theorem dX11_contest_2 : decode cX11_contest 2 = .ok (.invokevirtual 136, 3) := by decide +kernel
theorem dX11_contest_5 : decode cX11_contest 5 = .ok (.ifCond .eq 11, 3) := by decide +kernel
theorem dX11_contest_8 : decode cX11_contest 8 = .ok (.aload_n 0, 1) := by decide +kernel
theorem dX11_contest_9 : decode cX11_contest 9 = .ok (.iload_n 2, 1) := by decide +kernel
theorem dX11_contest_10 : decode cX11_contest 10 = .ok (.invokevirtual 136, 3) := by decide +kernel
theorem dX11_contest_13 : decode cX11_contest 13 = .ok (.ifCond .ne 5, 3) := by decide +kernel
theorem dX11_contest_16 : decode cX11_contest 16 = .ok (.iconst (-1), 1) := by decide +kernel
theorem dX11_contest_17 : decode cX11_contest 17 = .ok (.ireturn, 1) := by decide +kernel
theorem dX11_contest_18 : decode cX11_contest 18 = .ok (.aload_n 0, 1) := by decide +kernel
theorem dX11_contest_19 : decode cX11_contest 19 = .ok (.getfield 37, 3) := by decide +kernel
theorem dX11_contest_22 : decode cX11_contest 22 = .ok (.getfield 108, 3) := by decide +kernel
theorem dX11_contest_25 : decode cX11_contest 25 = .ok (.iload_n 1, 1) := by decide +kernel
theorem dX11_contest_26 : decode cX11_contest 26 = .ok (.invokevirtual 139, 3) := by decide +kernel
theorem dX11_contest_29 : decode cX11_contest 29 = .ok (.ifCond .eq 6, 3) := by decide +kernel
theorem dX11_contest_32 : decode cX11_contest 32 = .ok (.bipush (-3), 2) := by decide +kernel
theorem dX11_contest_34 : decode cX11_contest 34 = .ok (.ireturn, 1) := by decide +kernel
theorem dX11_contest_35 : decode cX11_contest 35 = .ok (.aload_n 0, 1) := by decide +kernel
theorem dX11_contest_36 : decode cX11_contest 36 = .ok (.getfield 37, 3) := by decide +kernel
theorem dX11_contest_39 : decode cX11_contest 39 = .ok (.getfield 158, 3) := by decide +kernel
theorem dX11_contest_42 : decode cX11_contest 42 = .ok (.iload_n 2, 1) := by decide +kernel
theorem dX11_contest_43 : decode cX11_contest 43 = .ok (.invokevirtual 162, 3) := by decide +kernel
theorem dX11_contest_46 : decode cX11_contest 46 = .ok (.iconst 2, 1) := by decide +kernel
theorem dX11_contest_47 : decode cX11_contest 47 = .ok (.if_icmp .eq 6, 3) := by decide +kernel
theorem dX11_contest_50 : decode cX11_contest 50 = .ok (.bipush (-4), 2) := by decide +kernel
theorem dX11_contest_52 : decode cX11_contest 52 = .ok (.ireturn, 1) := by decide +kernel
theorem dX11_contest_53 : decode cX11_contest 53 = .ok (.aload_n 0, 1) := by decide +kernel
theorem dX11_contest_54 : decode cX11_contest 54 = .ok (.getfield 37, 3) := by decide +kernel
theorem dX11_contest_57 : decode cX11_contest 57 = .ok (.getfield 108, 3) := by decide +kernel
theorem dX11_contest_60 : decode cX11_contest 60 = .ok (.iload_n 1, 1) := by decide +kernel
theorem dX11_contest_61 : decode cX11_contest 61 = .ok (.invokevirtual 192, 3) := by decide +kernel
theorem dX11_contest_64 : decode cX11_contest 64 = .ok (.iconst 3, 1) := by decide +kernel
theorem dX11_contest_65 : decode cX11_contest 65 = .ok (.if_icmp .lt 6, 3) := by decide +kernel
theorem dX11_contest_68 : decode cX11_contest 68 = .ok (.bipush (-4), 2) := by decide +kernel
theorem dX11_contest_70 : decode cX11_contest 70 = .ok (.ireturn, 1) := by decide +kernel
theorem dX11_contest_71 : decode cX11_contest 71 = .ok (.aload_n 0, 1) := by decide +kernel
theorem dX11_contest_72 : decode cX11_contest 72 = .ok (.getfield 24, 3) := by decide +kernel
theorem dX11_contest_75 : decode cX11_contest 75 = .ok (.invokevirtual 148, 3) := by decide +kernel
theorem dX11_contest_78 : decode cX11_contest 78 = .ok (.ifCond .ne 17, 3) := by decide +kernel
theorem dX11_contest_81 : decode cX11_contest 81 = .ok (.aload_n 0, 1) := by decide +kernel
theorem dX11_contest_82 : decode cX11_contest 82 = .ok (.getfield 24, 3) := by decide +kernel
theorem dX11_contest_85 : decode cX11_contest 85 = .ok (.invokevirtual 195, 3) := by decide +kernel
theorem dX11_contest_88 : decode cX11_contest 88 = .ok (.iconst 2, 1) := by decide +kernel
theorem dX11_contest_89 : decode cX11_contest 89 = .ok (.if_icmp .eq 6, 3) := by decide +kernel
theorem dX11_contest_92 : decode cX11_contest 92 = .ok (.bipush (-5), 2) := by decide +kernel
theorem dX11_contest_94 : decode cX11_contest 94 = .ok (.ireturn, 1) := by decide +kernel
theorem dX11_contest_95 : decode cX11_contest 95 = .ok (.aload_n 0, 1) := by decide +kernel
theorem dX11_contest_96 : decode cX11_contest 96 = .ok (.getfield 41, 3) := by decide +kernel
theorem dX11_contest_99 : decode cX11_contest 99 = .ok (.aload_n 0, 1) := by decide +kernel
theorem dX11_contest_100 : decode cX11_contest 100 = .ok (.getfield 37, 3) := by decide +kernel
theorem dX11_contest_103 : decode cX11_contest 103 = .ok (.invokevirtual 117, 3) := by decide +kernel
theorem dX11_contest_106 : decode cX11_contest 106 = .ok (.aload_n 0, 1) := by decide +kernel
theorem dX11_contest_107 : decode cX11_contest 107 = .ok (.getfield 24, 3) := by decide +kernel
theorem dX11_contest_110 : decode cX11_contest 110 = .ok (.iload_n 1, 1) := by decide +kernel
theorem dX11_contest_111 : decode cX11_contest 111 = .ok (.iload_n 2, 1) := by decide +kernel
theorem dX11_contest_112 : decode cX11_contest 112 = .ok (.invokevirtual 198, 3) := by decide +kernel
theorem dX11_contest_115 : decode cX11_contest 115 = .ok (.ireturn, 1) := by decide +kernel
theorem dX11_close_0 : decode cX11_close 0 = .ok (.aload_n 0, 1) := by decide +kernel
theorem dX11_close_1 : decode cX11_close 1 = .ok (.getfield 24, 3) := by decide +kernel
theorem dX11_close_4 : decode cX11_close 4 = .ok (.invokevirtual 148, 3) := by decide +kernel
theorem dX11_close_7 : decode cX11_close 7 = .ok (.ifCond .ne 6, 3) := by decide +kernel
theorem dX11_close_10 : decode cX11_close 10 = .ok (.bipush (-5), 2) := by decide +kernel
theorem dX11_close_12 : decode cX11_close 12 = .ok (.ireturn, 1) := by decide +kernel
theorem dX11_close_13 : decode cX11_close 13 = .ok (.aload_n 0, 1) := by decide +kernel
theorem dX11_close_14 : decode cX11_close 14 = .ok (.getfield 41, 3) := by decide +kernel
theorem dX11_close_17 : decode cX11_close 17 = .ok (.aload_n 0, 1) := by decide +kernel
theorem dX11_close_18 : decode cX11_close 18 = .ok (.getfield 37, 3) := by decide +kernel
theorem dX11_close_21 : decode cX11_close 21 = .ok (.invokevirtual 117, 3) := by decide +kernel
theorem dX11_close_24 : decode cX11_close 24 = .ok (.aload_n 0, 1) := by decide +kernel
theorem dX11_close_25 : decode cX11_close 25 = .ok (.getfield 24, 3) := by decide +kernel
theorem dX11_close_28 : decode cX11_close 28 = .ok (.invokevirtual 201, 3) := by decide +kernel
theorem dX11_close_31 : decode cX11_close 31 = .ok (.ireturn, 1) := by decide +kernel
theorem dX11_recount_0 : decode cX11_recount 0 = .ok (.aload_n 0, 1) := by decide +kernel
theorem dX11_recount_1 : decode cX11_recount 1 = .ok (.getfield 24, 3) := by decide +kernel
theorem dX11_recount_4 : decode cX11_recount 4 = .ok (.invokevirtual 195, 3) := by decide +kernel
theorem dX11_recount_7 : decode cX11_recount 7 = .ok (.iconst 2, 1) := by decide +kernel
theorem dX11_recount_8 : decode cX11_recount 8 = .ok (.if_icmp .eq 6, 3) := by decide +kernel
theorem dX11_recount_11 : decode cX11_recount 11 = .ok (.bipush (-5), 2) := by decide +kernel
theorem dX11_recount_13 : decode cX11_recount 13 = .ok (.ireturn, 1) := by decide +kernel
theorem dX11_recount_14 : decode cX11_recount 14 = .ok (.aload_n 0, 1) := by decide +kernel
theorem dX11_recount_15 : decode cX11_recount 15 = .ok (.getfield 37, 3) := by decide +kernel
theorem dX11_recount_18 : decode cX11_recount 18 = .ok (.getfield 204, 3) := by decide +kernel
theorem dX11_recount_21 : decode cX11_recount 21 = .ok (.aload_n 0, 1) := by decide +kernel
theorem dX11_recount_22 : decode cX11_recount 22 = .ok (.getfield 32, 3) := by decide +kernel
theorem dX11_recount_25 : decode cX11_recount 25 = .ok (.bipush 9, 2) := by decide +kernel
theorem dX11_recount_27 : decode cX11_recount 27 = .ok (.invokevirtual 207, 3) := by decide +kernel
theorem dX11_recount_30 : decode cX11_recount 30 = .ok (.if_icmp .lt 6, 3) := by decide +kernel
theorem dX11_recount_33 : decode cX11_recount 33 = .ok (.bipush (-5), 2) := by decide +kernel
theorem dX11_recount_35 : decode cX11_recount 35 = .ok (.ireturn, 1) := by decide +kernel
theorem dX11_recount_36 : decode cX11_recount 36 = .ok (.aload_n 0, 1) := by decide +kernel
theorem dX11_recount_37 : decode cX11_recount 37 = .ok (.getfield 41, 3) := by decide +kernel
theorem dX11_recount_40 : decode cX11_recount 40 = .ok (.aload_n 0, 1) := by decide +kernel
theorem dX11_recount_41 : decode cX11_recount 41 = .ok (.getfield 37, 3) := by decide +kernel
theorem dX11_recount_44 : decode cX11_recount 44 = .ok (.invokevirtual 117, 3) := by decide +kernel
theorem dX11_recount_47 : decode cX11_recount 47 = .ok (.aload_n 0, 1) := by decide +kernel
theorem dX11_recount_48 : decode cX11_recount 48 = .ok (.getfield 24, 3) := by decide +kernel
theorem dX11_recount_51 : decode cX11_recount 51 = .ok (.invokevirtual 210, 3) := by decide +kernel
theorem dX11_recount_54 : decode cX11_recount 54 = .ok (.ireturn, 1) := by decide +kernel
theorem dX11_pass_0 : decode cX11_pass 0 = .ok (.iload_n 1, 1) := by decide +kernel
theorem dX11_pass_1 : decode cX11_pass 1 = .ok (.invokestatic 105, 3) := by decide +kernel
theorem dX11_pass_4 : decode cX11_pass 4 = .ok (.ifCond .ne 5, 3) := by decide +kernel
theorem dX11_pass_7 : decode cX11_pass 7 = .ok (.iconst (-1), 1) := by decide +kernel
theorem dX11_pass_8 : decode cX11_pass 8 = .ok (.ireturn, 1) := by decide +kernel
theorem dX11_pass_9 : decode cX11_pass 9 = .ok (.aload_n 0, 1) := by decide +kernel
theorem dX11_pass_10 : decode cX11_pass 10 = .ok (.getfield 41, 3) := by decide +kernel
theorem dX11_pass_13 : decode cX11_pass 13 = .ok (.aload_n 0, 1) := by decide +kernel
theorem dX11_pass_14 : decode cX11_pass 14 = .ok (.getfield 37, 3) := by decide +kernel
theorem dX11_pass_17 : decode cX11_pass 17 = .ok (.invokevirtual 117, 3) := by decide +kernel
theorem dX11_pass_20 : decode cX11_pass 20 = .ok (.aload_n 0, 1) := by decide +kernel
theorem dX11_pass_21 : decode cX11_pass 21 = .ok (.getfield 24, 3) := by decide +kernel
theorem dX11_pass_24 : decode cX11_pass 24 = .ok (.iload_n 1, 1) := by decide +kernel
theorem dX11_pass_25 : decode cX11_pass 25 = .ok (.invokevirtual 213, 3) := by decide +kernel
theorem dX11_pass_28 : decode cX11_pass 28 = .ok (.ireturn, 1) := by decide +kernel
theorem dX11_keep_0 : decode cX11_keep 0 = .ok (.aload_n 0, 1) := by decide +kernel
theorem dX11_keep_1 : decode cX11_keep 1 = .ok (.iload_n 1, 1) := by decide +kernel
theorem dX11_keep_2 : decode cX11_keep 2 = .ok (.invokevirtual 216, 3) := by decide +kernel
theorem dX11_keep_5 : decode cX11_keep 5 = .ok (.ifCond .ne 5, 3) := by decide +kernel
theorem dX11_keep_8 : decode cX11_keep 8 = .ok (.iconst (-1), 1) := by decide +kernel
theorem dX11_keep_9 : decode cX11_keep 9 = .ok (.ireturn, 1) := by decide +kernel
theorem dX11_keep_10 : decode cX11_keep 10 = .ok (.aload_n 0, 1) := by decide +kernel
theorem dX11_keep_11 : decode cX11_keep 11 = .ok (.getfield 48, 3) := by decide +kernel
theorem dX11_keep_14 : decode cX11_keep 14 = .ok (.iload_n 1, 1) := by decide +kernel
theorem dX11_keep_15 : decode cX11_keep 15 = .ok (.aaload, 1) := by decide +kernel
theorem dX11_keep_16 : decode cX11_keep 16 = .ok (.aload_n 0, 1) := by decide +kernel
theorem dX11_keep_17 : decode cX11_keep 17 = .ok (.getfield 37, 3) := by decide +kernel
theorem dX11_keep_20 : decode cX11_keep 20 = .ok (.invokevirtual 219, 3) := by decide +kernel
theorem dX11_keep_23 : decode cX11_keep 23 = .ok (.aload_n 0, 1) := by decide +kernel
theorem dX11_keep_24 : decode cX11_keep 24 = .ok (.getfield 52, 3) := by decide +kernel
theorem dX11_keep_27 : decode cX11_keep 27 = .ok (.iload_n 1, 1) := by decide +kernel
theorem dX11_keep_28 : decode cX11_keep 28 = .ok (.iconst 1, 1) := by decide +kernel
theorem dX11_keep_29 : decode cX11_keep 29 = .ok (.bastore, 1) := by decide +kernel
theorem dX11_keep_30 : decode cX11_keep 30 = .ok (.aload_n 0, 1) := by decide +kernel
theorem dX11_keep_31 : decode cX11_keep 31 = .ok (.getfield 37, 3) := by decide +kernel
theorem dX11_keep_34 : decode cX11_keep 34 = .ok (.getfield 222, 3) := by decide +kernel
theorem dX11_keep_37 : decode cX11_keep 37 = .ok (.ireturn, 1) := by decide +kernel
theorem dX11_restore_0 : decode cX11_restore 0 = .ok (.aload_n 0, 1) := by decide +kernel
theorem dX11_restore_1 : decode cX11_restore 1 = .ok (.iload_n 1, 1) := by decide +kernel
theorem dX11_restore_2 : decode cX11_restore 2 = .ok (.invokevirtual 216, 3) := by decide +kernel
theorem dX11_restore_5 : decode cX11_restore 5 = .ok (.ifCond .ne 5, 3) := by decide +kernel
theorem dX11_restore_8 : decode cX11_restore 8 = .ok (.iconst (-1), 1) := by decide +kernel
theorem dX11_restore_9 : decode cX11_restore 9 = .ok (.ireturn, 1) := by decide +kernel
theorem dX11_restore_10 : decode cX11_restore 10 = .ok (.aload_n 0, 1) := by decide +kernel
theorem dX11_restore_11 : decode cX11_restore 11 = .ok (.getfield 52, 3) := by decide +kernel
theorem dX11_restore_14 : decode cX11_restore 14 = .ok (.iload_n 1, 1) := by decide +kernel
theorem dX11_restore_15 : decode cX11_restore 15 = .ok (.baload, 1) := by decide +kernel
theorem dX11_restore_16 : decode cX11_restore 16 = .ok (.ifCond .ne 6, 3) := by decide +kernel
theorem dX11_restore_19 : decode cX11_restore 19 = .ok (.bipush (-2), 2) := by decide +kernel
theorem dX11_restore_21 : decode cX11_restore 21 = .ok (.ireturn, 1) := by decide +kernel
theorem dX11_restore_22 : decode cX11_restore 22 = .ok (.aload_n 0, 1) := by decide +kernel
theorem dX11_restore_23 : decode cX11_restore 23 = .ok (.getfield 41, 3) := by decide +kernel
theorem dX11_restore_26 : decode cX11_restore 26 = .ok (.aload_n 0, 1) := by decide +kernel
theorem dX11_restore_27 : decode cX11_restore 27 = .ok (.getfield 37, 3) := by decide +kernel
theorem dX11_restore_30 : decode cX11_restore 30 = .ok (.invokevirtual 117, 3) := by decide +kernel
theorem dX11_restore_33 : decode cX11_restore 33 = .ok (.aload_n 0, 1) := by decide +kernel
theorem dX11_restore_34 : decode cX11_restore 34 = .ok (.getfield 37, 3) := by decide +kernel
theorem dX11_restore_37 : decode cX11_restore 37 = .ok (.aload_n 0, 1) := by decide +kernel
theorem dX11_restore_38 : decode cX11_restore 38 = .ok (.getfield 48, 3) := by decide +kernel
theorem dX11_restore_41 : decode cX11_restore 41 = .ok (.iload_n 1, 1) := by decide +kernel
theorem dX11_restore_42 : decode cX11_restore 42 = .ok (.aaload, 1) := by decide +kernel
theorem dX11_restore_43 : decode cX11_restore 43 = .ok (.invokevirtual 219, 3) := by decide +kernel
theorem dX11_restore_46 : decode cX11_restore 46 = .ok (.aload_n 0, 1) := by decide +kernel
theorem dX11_restore_47 : decode cX11_restore 47 = .ok (.getfield 37, 3) := by decide +kernel
theorem dX11_restore_50 : decode cX11_restore 50 = .ok (.getfield 222, 3) := by decide +kernel
theorem dX11_restore_53 : decode cX11_restore 53 = .ok (.ireturn, 1) := by decide +kernel
theorem dX11_undo_0 : decode cX11_undo 0 = .ok (.aload_n 0, 1) := by decide +kernel
theorem dX11_undo_1 : decode cX11_undo 1 = .ok (.getfield 41, 3) := by decide +kernel
theorem dX11_undo_4 : decode cX11_undo 4 = .ok (.aload_n 0, 1) := by decide +kernel
theorem dX11_undo_5 : decode cX11_undo 5 = .ok (.getfield 37, 3) := by decide +kernel
theorem dX11_undo_8 : decode cX11_undo 8 = .ok (.invokevirtual 225, 3) := by decide +kernel
theorem dX11_undo_11 : decode cX11_undo 11 = .ok (.ifCond .eq 13, 3) := by decide +kernel
theorem dX11_undo_14 : decode cX11_undo 14 = .ok (.aload_n 0, 1) := by decide +kernel
theorem dX11_undo_15 : decode cX11_undo 15 = .ok (.getfield 41, 3) := by decide +kernel
theorem dX11_undo_18 : decode cX11_undo 18 = .ok (.invokevirtual 229, 3) := by decide +kernel
theorem dX11_undo_21 : decode cX11_undo 21 = .ok (.goto 4, 3) := by decide +kernel
theorem dX11_undo_24 : decode cX11_undo 24 = .ok (.iconst (-1), 1) := by decide +kernel
theorem dX11_undo_25 : decode cX11_undo 25 = .ok (.ireturn, 1) := by decide +kernel
theorem dX11_value_0 : decode cX11_value 0 = .ok (.iload_n 1, 1) := by decide +kernel
theorem dX11_value_1 : decode cX11_value 1 = .ok (.tableswitch 273 0 16 #[83, 91, 106, 114, 122, 133, 144, 152, 163, 171, 179, 202, 213, 221, 229, 240, 259], 83) := by decide +kernel
theorem dX11_value_84 : decode cX11_value 84 = .ok (.aload_n 0, 1) := by decide +kernel
theorem dX11_value_85 : decode cX11_value 85 = .ok (.getfield 37, 3) := by decide +kernel
theorem dX11_value_88 : decode cX11_value 88 = .ok (.getfield 222, 3) := by decide +kernel
theorem dX11_value_91 : decode cX11_value 91 = .ok (.ireturn, 1) := by decide +kernel
theorem dX11_value_92 : decode cX11_value 92 = .ok (.aload_n 0, 1) := by decide +kernel
theorem dX11_value_93 : decode cX11_value 93 = .ok (.getfield 24, 3) := by decide +kernel
theorem dX11_value_96 : decode cX11_value 96 = .ok (.aload_n 0, 1) := by decide +kernel
theorem dX11_value_97 : decode cX11_value 97 = .ok (.getfield 37, 3) := by decide +kernel
theorem dX11_value_100 : decode cX11_value 100 = .ok (.getfield 222, 3) := by decide +kernel
theorem dX11_value_103 : decode cX11_value 103 = .ok (.invokevirtual 232, 3) := by decide +kernel
theorem dX11_value_106 : decode cX11_value 106 = .ok (.ireturn, 1) := by decide +kernel
theorem dX11_value_107 : decode cX11_value 107 = .ok (.aload_n 0, 1) := by decide +kernel
theorem dX11_value_108 : decode cX11_value 108 = .ok (.getfield 32, 3) := by decide +kernel
theorem dX11_value_111 : decode cX11_value 111 = .ok (.invokevirtual 96, 3) := by decide +kernel
theorem dX11_value_114 : decode cX11_value 114 = .ok (.ireturn, 1) := by decide +kernel
theorem dX11_value_115 : decode cX11_value 115 = .ok (.aload_n 0, 1) := by decide +kernel
theorem dX11_value_116 : decode cX11_value 116 = .ok (.getfield 32, 3) := by decide +kernel
theorem dX11_value_119 : decode cX11_value 119 = .ok (.invokevirtual 235, 3) := by decide +kernel
theorem dX11_value_122 : decode cX11_value 122 = .ok (.ireturn, 1) := by decide +kernel
theorem dX11_value_123 : decode cX11_value 123 = .ok (.aload_n 0, 1) := by decide +kernel
theorem dX11_value_124 : decode cX11_value 124 = .ok (.getfield 37, 3) := by decide +kernel
theorem dX11_value_127 : decode cX11_value 127 = .ok (.getfield 108, 3) := by decide +kernel
theorem dX11_value_130 : decode cX11_value 130 = .ok (.invokevirtual 238, 3) := by decide +kernel
theorem dX11_value_133 : decode cX11_value 133 = .ok (.ireturn, 1) := by decide +kernel
theorem dX11_value_134 : decode cX11_value 134 = .ok (.aload_n 0, 1) := by decide +kernel
theorem dX11_value_135 : decode cX11_value 135 = .ok (.getfield 37, 3) := by decide +kernel
theorem dX11_value_138 : decode cX11_value 138 = .ok (.getfield 108, 3) := by decide +kernel
theorem dX11_value_141 : decode cX11_value 141 = .ok (.invokevirtual 241, 3) := by decide +kernel
theorem dX11_value_144 : decode cX11_value 144 = .ok (.ireturn, 1) := by decide +kernel
theorem dX11_value_145 : decode cX11_value 145 = .ok (.aload_n 0, 1) := by decide +kernel
theorem dX11_value_146 : decode cX11_value 146 = .ok (.getfield 24, 3) := by decide +kernel
theorem dX11_value_149 : decode cX11_value 149 = .ok (.invokevirtual 244, 3) := by decide +kernel
theorem dX11_value_152 : decode cX11_value 152 = .ok (.ireturn, 1) := by decide +kernel
theorem dX11_value_153 : decode cX11_value 153 = .ok (.aload_n 0, 1) := by decide +kernel
theorem dX11_value_154 : decode cX11_value 154 = .ok (.getfield 37, 3) := by decide +kernel
theorem dX11_value_157 : decode cX11_value 157 = .ok (.getfield 158, 3) := by decide +kernel
theorem dX11_value_160 : decode cX11_value 160 = .ok (.invokevirtual 247, 3) := by decide +kernel
theorem dX11_value_163 : decode cX11_value 163 = .ok (.ireturn, 1) := by decide +kernel
theorem dX11_value_164 : decode cX11_value 164 = .ok (.aload_n 0, 1) := by decide +kernel
theorem dX11_value_165 : decode cX11_value 165 = .ok (.getfield 24, 3) := by decide +kernel
theorem dX11_value_168 : decode cX11_value 168 = .ok (.invokevirtual 195, 3) := by decide +kernel
theorem dX11_value_171 : decode cX11_value 171 = .ok (.ireturn, 1) := by decide +kernel
theorem dX11_value_172 : decode cX11_value 172 = .ok (.aload_n 0, 1) := by decide +kernel
theorem dX11_value_173 : decode cX11_value 173 = .ok (.getfield 37, 3) := by decide +kernel
theorem dX11_value_176 : decode cX11_value 176 = .ok (.getfield 250, 3) := by decide +kernel
theorem dX11_value_179 : decode cX11_value 179 = .ok (.ireturn, 1) := by decide +kernel
theorem dX11_value_180 : decode cX11_value 180 = .ok (.aload_n 0, 1) := by decide +kernel
theorem dX11_value_181 : decode cX11_value 181 = .ok (.getfield 24, 3) := by decide +kernel
theorem dX11_value_184 : decode cX11_value 184 = .ok (.invokevirtual 148, 3) := by decide +kernel
theorem dX11_value_187 : decode cX11_value 187 = .ok (.ifCond .eq 8, 3) := by decide +kernel
theorem dX11_value_190 : decode cX11_value 190 = .ok (.bipush (-2), 2) := by decide +kernel
theorem dX11_value_192 : decode cX11_value 192 = .ok (.goto 10, 3) := by decide +kernel
theorem dX11_value_195 : decode cX11_value 195 = .ok (.aload_n 0, 1) := by decide +kernel
theorem dX11_value_196 : decode cX11_value 196 = .ok (.getfield 24, 3) := by decide +kernel
theorem dX11_value_199 : decode cX11_value 199 = .ok (.invokevirtual 253, 3) := by decide +kernel
theorem dX11_value_202 : decode cX11_value 202 = .ok (.ireturn, 1) := by decide +kernel
theorem dX11_value_203 : decode cX11_value 203 = .ok (.aload_n 0, 1) := by decide +kernel
theorem dX11_value_204 : decode cX11_value 204 = .ok (.getfield 37, 3) := by decide +kernel
theorem dX11_value_207 : decode cX11_value 207 = .ok (.getfield 158, 3) := by decide +kernel
theorem dX11_value_210 : decode cX11_value 210 = .ok (.invokevirtual 256, 3) := by decide +kernel
theorem dX11_value_213 : decode cX11_value 213 = .ok (.ireturn, 1) := by decide +kernel
theorem dX11_value_214 : decode cX11_value 214 = .ok (.aload_n 0, 1) := by decide +kernel
theorem dX11_value_215 : decode cX11_value 215 = .ok (.getfield 37, 3) := by decide +kernel
theorem dX11_value_218 : decode cX11_value 218 = .ok (.getfield 204, 3) := by decide +kernel
theorem dX11_value_221 : decode cX11_value 221 = .ok (.ireturn, 1) := by decide +kernel
theorem dX11_value_222 : decode cX11_value 222 = .ok (.aload_n 0, 1) := by decide +kernel
theorem dX11_value_223 : decode cX11_value 223 = .ok (.getfield 37, 3) := by decide +kernel
theorem dX11_value_226 : decode cX11_value 226 = .ok (.getfield 259, 3) := by decide +kernel
theorem dX11_value_229 : decode cX11_value 229 = .ok (.ireturn, 1) := by decide +kernel
theorem dX11_value_230 : decode cX11_value 230 = .ok (.aload_n 0, 1) := by decide +kernel
theorem dX11_value_231 : decode cX11_value 231 = .ok (.getfield 37, 3) := by decide +kernel
theorem dX11_value_234 : decode cX11_value 234 = .ok (.getfield 262, 3) := by decide +kernel
theorem dX11_value_237 : decode cX11_value 237 = .ok (.invokevirtual 266, 3) := by decide +kernel
theorem dX11_value_240 : decode cX11_value 240 = .ok (.ireturn, 1) := by decide +kernel
theorem dX11_value_241 : decode cX11_value 241 = .ok (.aload_n 0, 1) := by decide +kernel
theorem dX11_value_242 : decode cX11_value 242 = .ok (.getfield 32, 3) := by decide +kernel
theorem dX11_value_245 : decode cX11_value 245 = .ok (.invokevirtual 96, 3) := by decide +kernel
theorem dX11_value_248 : decode cX11_value 248 = .ok (.aload_n 0, 1) := by decide +kernel
theorem dX11_value_249 : decode cX11_value 249 = .ok (.getfield 37, 3) := by decide +kernel
theorem dX11_value_252 : decode cX11_value 252 = .ok (.getfield 108, 3) := by decide +kernel
theorem dX11_value_255 : decode cX11_value 255 = .ok (.invokevirtual 241, 3) := by decide +kernel
theorem dX11_value_258 : decode cX11_value 258 = .ok (.isub, 1) := by decide +kernel
theorem dX11_value_259 : decode cX11_value 259 = .ok (.ireturn, 1) := by decide +kernel
theorem dX11_value_260 : decode cX11_value 260 = .ok (.aload_n 0, 1) := by decide +kernel
theorem dX11_value_261 : decode cX11_value 261 = .ok (.getfield 37, 3) := by decide +kernel
theorem dX11_value_264 : decode cX11_value 264 = .ok (.getfield 158, 3) := by decide +kernel
theorem dX11_value_267 : decode cX11_value 267 = .ok (.invokevirtual 271, 3) := by decide +kernel
theorem dX11_value_270 : decode cX11_value 270 = .ok (.invokestatic 174, 3) := by decide +kernel
theorem dX11_value_273 : decode cX11_value 273 = .ok (.ireturn, 1) := by decide +kernel
theorem dX11_value_274 : decode cX11_value 274 = .ok (.iconst (-1), 1) := by decide +kernel
theorem dX11_value_275 : decode cX11_value 275 = .ok (.ireturn, 1) := by decide +kernel
theorem dX11_person_0 : decode cX11_person 0 = .ok (.aload_n 0, 1) := by decide +kernel
theorem dX11_person_1 : decode cX11_person 1 = .ok (.iload_n 1, 1) := by decide +kernel
theorem dX11_person_2 : decode cX11_person 2 = .ok (.invokevirtual 136, 3) := by decide +kernel
theorem dX11_person_5 : decode cX11_person 5 = .ok (.ifCond .ne 5, 3) := by decide +kernel
theorem dX11_person_8 : decode cX11_person 8 = .ok (.iconst (-1), 1) := by decide +kernel
theorem dX11_person_9 : decode cX11_person 9 = .ok (.ireturn, 1) := by decide +kernel
theorem dX11_person_10 : decode cX11_person 10 = .ok (.iload_n 2, 1) := by decide +kernel
theorem dX11_person_11 : decode cX11_person 11 = .ok (.tableswitch 133 0 6 #[41, 53, 73, 82, 94, 109, 121], 41) := by decide +kernel
theorem dX11_person_52 : decode cX11_person 52 = .ok (.aload_n 0, 1) := by decide +kernel
theorem dX11_person_53 : decode cX11_person 53 = .ok (.getfield 37, 3) := by decide +kernel
theorem dX11_person_56 : decode cX11_person 56 = .ok (.getfield 108, 3) := by decide +kernel
theorem dX11_person_59 : decode cX11_person 59 = .ok (.iload_n 1, 1) := by decide +kernel
theorem dX11_person_60 : decode cX11_person 60 = .ok (.invokevirtual 142, 3) := by decide +kernel
theorem dX11_person_63 : decode cX11_person 63 = .ok (.ireturn, 1) := by decide +kernel
theorem dX11_person_64 : decode cX11_person 64 = .ok (.aload_n 0, 1) := by decide +kernel
theorem dX11_person_65 : decode cX11_person 65 = .ok (.getfield 37, 3) := by decide +kernel
theorem dX11_person_68 : decode cX11_person 68 = .ok (.getfield 108, 3) := by decide +kernel
theorem dX11_person_71 : decode cX11_person 71 = .ok (.iload_n 1, 1) := by decide +kernel
theorem dX11_person_72 : decode cX11_person 72 = .ok (.invokevirtual 139, 3) := by decide +kernel
theorem dX11_person_75 : decode cX11_person 75 = .ok (.ifCond .eq 7, 3) := by decide +kernel
theorem dX11_person_78 : decode cX11_person 78 = .ok (.iconst 1, 1) := by decide +kernel
theorem dX11_person_79 : decode cX11_person 79 = .ok (.goto 4, 3) := by decide +kernel
theorem dX11_person_82 : decode cX11_person 82 = .ok (.iconst 0, 1) := by decide +kernel
theorem dX11_person_83 : decode cX11_person 83 = .ok (.ireturn, 1) := by decide +kernel
theorem dX11_person_84 : decode cX11_person 84 = .ok (.aload_n 0, 1) := by decide +kernel
theorem dX11_person_85 : decode cX11_person 85 = .ok (.getfield 24, 3) := by decide +kernel
theorem dX11_person_88 : decode cX11_person 88 = .ok (.iload_n 1, 1) := by decide +kernel
theorem dX11_person_89 : decode cX11_person 89 = .ok (.invokevirtual 274, 3) := by decide +kernel
theorem dX11_person_92 : decode cX11_person 92 = .ok (.ireturn, 1) := by decide +kernel
theorem dX11_person_93 : decode cX11_person 93 = .ok (.aload_n 0, 1) := by decide +kernel
theorem dX11_person_94 : decode cX11_person 94 = .ok (.getfield 37, 3) := by decide +kernel
theorem dX11_person_97 : decode cX11_person 97 = .ok (.getfield 108, 3) := by decide +kernel
theorem dX11_person_100 : decode cX11_person 100 = .ok (.iload_n 1, 1) := by decide +kernel
theorem dX11_person_101 : decode cX11_person 101 = .ok (.invokevirtual 192, 3) := by decide +kernel
theorem dX11_person_104 : decode cX11_person 104 = .ok (.ireturn, 1) := by decide +kernel
theorem dX11_person_105 : decode cX11_person 105 = .ok (.aload_n 0, 1) := by decide +kernel
theorem dX11_person_106 : decode cX11_person 106 = .ok (.getfield 37, 3) := by decide +kernel
theorem dX11_person_109 : decode cX11_person 109 = .ok (.getfield 158, 3) := by decide +kernel
theorem dX11_person_112 : decode cX11_person 112 = .ok (.iload_n 1, 1) := by decide +kernel
theorem dX11_person_113 : decode cX11_person 113 = .ok (.invokevirtual 171, 3) := by decide +kernel
theorem dX11_person_116 : decode cX11_person 116 = .ok (.invokestatic 174, 3) := by decide +kernel
theorem dX11_person_119 : decode cX11_person 119 = .ok (.ireturn, 1) := by decide +kernel
theorem dX11_person_120 : decode cX11_person 120 = .ok (.aload_n 0, 1) := by decide +kernel
theorem dX11_person_121 : decode cX11_person 121 = .ok (.getfield 37, 3) := by decide +kernel
theorem dX11_person_124 : decode cX11_person 124 = .ok (.getfield 158, 3) := by decide +kernel
theorem dX11_person_127 : decode cX11_person 127 = .ok (.iload_n 1, 1) := by decide +kernel
theorem dX11_person_128 : decode cX11_person 128 = .ok (.invokevirtual 277, 3) := by decide +kernel
theorem dX11_person_131 : decode cX11_person 131 = .ok (.ireturn, 1) := by decide +kernel
theorem dX11_person_132 : decode cX11_person 132 = .ok (.aload_n 0, 1) := by decide +kernel
theorem dX11_person_133 : decode cX11_person 133 = .ok (.getfield 37, 3) := by decide +kernel
theorem dX11_person_136 : decode cX11_person 136 = .ok (.getfield 108, 3) := by decide +kernel
theorem dX11_person_139 : decode cX11_person 139 = .ok (.iload_n 1, 1) := by decide +kernel
theorem dX11_person_140 : decode cX11_person 140 = .ok (.invokevirtual 280, 3) := by decide +kernel
theorem dX11_person_143 : decode cX11_person 143 = .ok (.ireturn, 1) := by decide +kernel
theorem dX11_person_144 : decode cX11_person 144 = .ok (.iconst (-1), 1) := by decide +kernel
theorem dX11_person_145 : decode cX11_person 145 = .ok (.ireturn, 1) := by decide +kernel
theorem dX11_boat_0 : decode cX11_boat 0 = .ok (.aload_n 0, 1) := by decide +kernel
theorem dX11_boat_1 : decode cX11_boat 1 = .ok (.iload_n 1, 1) := by decide +kernel
theorem dX11_boat_2 : decode cX11_boat 2 = .ok (.invokevirtual 101, 3) := by decide +kernel
theorem dX11_boat_5 : decode cX11_boat 5 = .ok (.ifCond .ne 5, 3) := by decide +kernel
theorem dX11_boat_8 : decode cX11_boat 8 = .ok (.iconst (-1), 1) := by decide +kernel
theorem dX11_boat_9 : decode cX11_boat 9 = .ok (.ireturn, 1) := by decide +kernel
theorem dX11_boat_10 : decode cX11_boat 10 = .ok (.iload_n 2, 1) := by decide +kernel
theorem dX11_boat_11 : decode cX11_boat 11 = .ok (.tableswitch 125 0 4 #[33, 53, 89, 101, 113], 33) := by decide +kernel
theorem dX11_boat_44 : decode cX11_boat 44 = .ok (.aload_n 0, 1) := by decide +kernel
theorem dX11_boat_45 : decode cX11_boat 45 = .ok (.getfield 37, 3) := by decide +kernel
theorem dX11_boat_48 : decode cX11_boat 48 = .ok (.getfield 108, 3) := by decide +kernel
theorem dX11_boat_51 : decode cX11_boat 51 = .ok (.iload_n 1, 1) := by decide +kernel
theorem dX11_boat_52 : decode cX11_boat 52 = .ok (.invokevirtual 112, 3) := by decide +kernel
theorem dX11_boat_55 : decode cX11_boat 55 = .ok (.ifCond .eq 7, 3) := by decide +kernel
theorem dX11_boat_58 : decode cX11_boat 58 = .ok (.iconst 1, 1) := by decide +kernel
theorem dX11_boat_59 : decode cX11_boat 59 = .ok (.goto 4, 3) := by decide +kernel
theorem dX11_boat_62 : decode cX11_boat 62 = .ok (.iconst 0, 1) := by decide +kernel
theorem dX11_boat_63 : decode cX11_boat 63 = .ok (.ireturn, 1) := by decide +kernel
theorem dX11_boat_64 : decode cX11_boat 64 = .ok (.aload_n 0, 1) := by decide +kernel
theorem dX11_boat_65 : decode cX11_boat 65 = .ok (.getfield 37, 3) := by decide +kernel
theorem dX11_boat_68 : decode cX11_boat 68 = .ok (.getfield 108, 3) := by decide +kernel
theorem dX11_boat_71 : decode cX11_boat 71 = .ok (.iload_n 1, 1) := by decide +kernel
theorem dX11_boat_72 : decode cX11_boat 72 = .ok (.invokevirtual 112, 3) := by decide +kernel
theorem dX11_boat_75 : decode cX11_boat 75 = .ok (.ifCond .eq 17, 3) := by decide +kernel
theorem dX11_boat_78 : decode cX11_boat 78 = .ok (.aload_n 0, 1) := by decide +kernel
theorem dX11_boat_79 : decode cX11_boat 79 = .ok (.getfield 37, 3) := by decide +kernel
theorem dX11_boat_82 : decode cX11_boat 82 = .ok (.getfield 108, 3) := by decide +kernel
theorem dX11_boat_85 : decode cX11_boat 85 = .ok (.iload_n 1, 1) := by decide +kernel
theorem dX11_boat_86 : decode cX11_boat 86 = .ok (.invokevirtual 129, 3) := by decide +kernel
theorem dX11_boat_89 : decode cX11_boat 89 = .ok (.goto 10, 3) := by decide +kernel
theorem dX11_boat_92 : decode cX11_boat 92 = .ok (.aload_n 0, 1) := by decide +kernel
theorem dX11_boat_93 : decode cX11_boat 93 = .ok (.getfield 37, 3) := by decide +kernel
theorem dX11_boat_96 : decode cX11_boat 96 = .ok (.getfield 222, 3) := by decide +kernel
theorem dX11_boat_99 : decode cX11_boat 99 = .ok (.ireturn, 1) := by decide +kernel
theorem dX11_boat_100 : decode cX11_boat 100 = .ok (.aload_n 0, 1) := by decide +kernel
theorem dX11_boat_101 : decode cX11_boat 101 = .ok (.getfield 37, 3) := by decide +kernel
theorem dX11_boat_104 : decode cX11_boat 104 = .ok (.getfield 108, 3) := by decide +kernel
theorem dX11_boat_107 : decode cX11_boat 107 = .ok (.iload_n 1, 1) := by decide +kernel
theorem dX11_boat_108 : decode cX11_boat 108 = .ok (.invokevirtual 283, 3) := by decide +kernel
theorem dX11_boat_111 : decode cX11_boat 111 = .ok (.ireturn, 1) := by decide +kernel
theorem dX11_boat_112 : decode cX11_boat 112 = .ok (.aload_n 0, 1) := by decide +kernel
theorem dX11_boat_113 : decode cX11_boat 113 = .ok (.getfield 37, 3) := by decide +kernel
theorem dX11_boat_116 : decode cX11_boat 116 = .ok (.getfield 108, 3) := by decide +kernel
theorem dX11_boat_119 : decode cX11_boat 119 = .ok (.iload_n 1, 1) := by decide +kernel
theorem dX11_boat_120 : decode cX11_boat 120 = .ok (.invokevirtual 286, 3) := by decide +kernel
theorem dX11_boat_123 : decode cX11_boat 123 = .ok (.ireturn, 1) := by decide +kernel
theorem dX11_boat_124 : decode cX11_boat 124 = .ok (.aload_n 0, 1) := by decide +kernel
theorem dX11_boat_125 : decode cX11_boat 125 = .ok (.getfield 37, 3) := by decide +kernel
theorem dX11_boat_128 : decode cX11_boat 128 = .ok (.getfield 108, 3) := by decide +kernel
theorem dX11_boat_131 : decode cX11_boat 131 = .ok (.iload_n 1, 1) := by decide +kernel
theorem dX11_boat_132 : decode cX11_boat 132 = .ok (.invokevirtual 289, 3) := by decide +kernel
theorem dX11_boat_135 : decode cX11_boat 135 = .ok (.ireturn, 1) := by decide +kernel
theorem dX11_boat_136 : decode cX11_boat 136 = .ok (.iconst (-1), 1) := by decide +kernel
theorem dX11_boat_137 : decode cX11_boat 137 = .ok (.ireturn, 1) := by decide +kernel
theorem dX11_stick_0 : decode cX11_stick 0 = .ok (.aload_n 0, 1) := by decide +kernel
theorem dX11_stick_1 : decode cX11_stick 1 = .ok (.iload_n 1, 1) := by decide +kernel
theorem dX11_stick_2 : decode cX11_stick 2 = .ok (.invokevirtual 136, 3) := by decide +kernel
theorem dX11_stick_5 : decode cX11_stick 5 = .ok (.ifCond .ne 5, 3) := by decide +kernel
theorem dX11_stick_8 : decode cX11_stick 8 = .ok (.iconst (-1), 1) := by decide +kernel
theorem dX11_stick_9 : decode cX11_stick 9 = .ok (.ireturn, 1) := by decide +kernel
theorem dX11_stick_10 : decode cX11_stick 10 = .ok (.iload_n 2, 1) := by decide +kernel
theorem dX11_stick_11 : decode cX11_stick 11 = .ok (.tableswitch 109 0 5 #[37, 49, 61, 73, 85, 97], 37) := by decide +kernel
theorem dX11_stick_48 : decode cX11_stick 48 = .ok (.aload_n 0, 1) := by decide +kernel
theorem dX11_stick_49 : decode cX11_stick 49 = .ok (.getfield 37, 3) := by decide +kernel
theorem dX11_stick_52 : decode cX11_stick 52 = .ok (.getfield 158, 3) := by decide +kernel
theorem dX11_stick_55 : decode cX11_stick 55 = .ok (.iload_n 1, 1) := by decide +kernel
theorem dX11_stick_56 : decode cX11_stick 56 = .ok (.invokevirtual 162, 3) := by decide +kernel
theorem dX11_stick_59 : decode cX11_stick 59 = .ok (.ireturn, 1) := by decide +kernel
theorem dX11_stick_60 : decode cX11_stick 60 = .ok (.aload_n 0, 1) := by decide +kernel
theorem dX11_stick_61 : decode cX11_stick 61 = .ok (.getfield 37, 3) := by decide +kernel
theorem dX11_stick_64 : decode cX11_stick 64 = .ok (.getfield 158, 3) := by decide +kernel
theorem dX11_stick_67 : decode cX11_stick 67 = .ok (.iload_n 1, 1) := by decide +kernel
theorem dX11_stick_68 : decode cX11_stick 68 = .ok (.invokevirtual 179, 3) := by decide +kernel
theorem dX11_stick_71 : decode cX11_stick 71 = .ok (.ireturn, 1) := by decide +kernel
theorem dX11_stick_72 : decode cX11_stick 72 = .ok (.aload_n 0, 1) := by decide +kernel
theorem dX11_stick_73 : decode cX11_stick 73 = .ok (.getfield 37, 3) := by decide +kernel
theorem dX11_stick_76 : decode cX11_stick 76 = .ok (.getfield 158, 3) := by decide +kernel
theorem dX11_stick_79 : decode cX11_stick 79 = .ok (.iload_n 1, 1) := by decide +kernel
theorem dX11_stick_80 : decode cX11_stick 80 = .ok (.invokevirtual 292, 3) := by decide +kernel
theorem dX11_stick_83 : decode cX11_stick 83 = .ok (.ireturn, 1) := by decide +kernel
theorem dX11_stick_84 : decode cX11_stick 84 = .ok (.aload_n 0, 1) := by decide +kernel
theorem dX11_stick_85 : decode cX11_stick 85 = .ok (.getfield 37, 3) := by decide +kernel
theorem dX11_stick_88 : decode cX11_stick 88 = .ok (.getfield 158, 3) := by decide +kernel
theorem dX11_stick_91 : decode cX11_stick 91 = .ok (.iload_n 1, 1) := by decide +kernel
theorem dX11_stick_92 : decode cX11_stick 92 = .ok (.invokevirtual 295, 3) := by decide +kernel
theorem dX11_stick_95 : decode cX11_stick 95 = .ok (.ireturn, 1) := by decide +kernel
theorem dX11_stick_96 : decode cX11_stick 96 = .ok (.aload_n 0, 1) := by decide +kernel
theorem dX11_stick_97 : decode cX11_stick 97 = .ok (.getfield 37, 3) := by decide +kernel
theorem dX11_stick_100 : decode cX11_stick 100 = .ok (.getfield 158, 3) := by decide +kernel
theorem dX11_stick_103 : decode cX11_stick 103 = .ok (.iload_n 1, 1) := by decide +kernel
theorem dX11_stick_104 : decode cX11_stick 104 = .ok (.invokevirtual 298, 3) := by decide +kernel
theorem dX11_stick_107 : decode cX11_stick 107 = .ok (.ireturn, 1) := by decide +kernel
theorem dX11_stick_108 : decode cX11_stick 108 = .ok (.aload_n 0, 1) := by decide +kernel
theorem dX11_stick_109 : decode cX11_stick 109 = .ok (.getfield 37, 3) := by decide +kernel
theorem dX11_stick_112 : decode cX11_stick 112 = .ok (.getfield 158, 3) := by decide +kernel
theorem dX11_stick_115 : decode cX11_stick 115 = .ok (.iload_n 1, 1) := by decide +kernel
theorem dX11_stick_116 : decode cX11_stick 116 = .ok (.invokevirtual 301, 3) := by decide +kernel
theorem dX11_stick_119 : decode cX11_stick 119 = .ok (.ireturn, 1) := by decide +kernel
theorem dX11_stick_120 : decode cX11_stick 120 = .ok (.iconst (-1), 1) := by decide +kernel
theorem dX11_stick_121 : decode cX11_stick 121 = .ok (.ireturn, 1) := by decide +kernel
theorem dX11_basket_0 : decode cX11_basket 0 = .ok (.iload_n 1, 1) := by decide +kernel
theorem dX11_basket_1 : decode cX11_basket 1 = .ok (.invokestatic 155, 3) := by decide +kernel
theorem dX11_basket_4 : decode cX11_basket 4 = .ok (.ifCond .eq 17, 3) := by decide +kernel
theorem dX11_basket_7 : decode cX11_basket 7 = .ok (.aload_n 0, 1) := by decide +kernel
theorem dX11_basket_8 : decode cX11_basket 8 = .ok (.getfield 37, 3) := by decide +kernel
theorem dX11_basket_11 : decode cX11_basket 11 = .ok (.getfield 158, 3) := by decide +kernel
theorem dX11_basket_14 : decode cX11_basket 14 = .ok (.iload_n 1, 1) := by decide +kernel
theorem dX11_basket_15 : decode cX11_basket 15 = .ok (.invokevirtual 304, 3) := by decide +kernel
theorem dX11_basket_18 : decode cX11_basket 18 = .ok (.goto 4, 3) := by decide +kernel
theorem dX11_basket_21 : decode cX11_basket 21 = .ok (.iconst (-1), 1) := by decide +kernel
theorem dX11_basket_22 : decode cX11_basket 22 = .ok (.ireturn, 1) := by decide +kernel
theorem dX11_number_0 : decode cX11_number 0 = .ok (.iload_n 1, 1) := by decide +kernel
theorem dX11_number_1 : decode cX11_number 1 = .ok (.bipush 10, 2) := by decide +kernel
theorem dX11_number_3 : decode cX11_number 3 = .ok (.invokestatic 307, 3) := by decide +kernel
theorem dX11_number_6 : decode cX11_number 6 = .ok (.ifCond .eq 14, 3) := by decide +kernel
theorem dX11_number_9 : decode cX11_number 9 = .ok (.aload_n 0, 1) := by decide +kernel
theorem dX11_number_10 : decode cX11_number 10 = .ok (.getfield 32, 3) := by decide +kernel
theorem dX11_number_13 : decode cX11_number 13 = .ok (.iload_n 1, 1) := by decide +kernel
theorem dX11_number_14 : decode cX11_number 14 = .ok (.invokevirtual 207, 3) := by decide +kernel
theorem dX11_number_17 : decode cX11_number 17 = .ok (.goto 4, 3) := by decide +kernel
theorem dX11_number_20 : decode cX11_number 20 = .ok (.iconst (-1), 1) := by decide +kernel
theorem dX11_number_21 : decode cX11_number 21 = .ok (.ireturn, 1) := by decide +kernel
theorem dX11_past_0 : decode cX11_past 0 = .ok (.iload_n 1, 1) := by decide +kernel
theorem dX11_past_1 : decode cX11_past 1 = .ok (.ifCond .lt 11, 3) := by decide +kernel
theorem dX11_past_4 : decode cX11_past 4 = .ok (.iload_n 2, 1) := by decide +kernel
theorem dX11_past_5 : decode cX11_past 5 = .ok (.iconst 4, 1) := by decide +kernel
theorem dX11_past_6 : decode cX11_past 6 = .ok (.invokestatic 307, 3) := by decide +kernel
theorem dX11_past_9 : decode cX11_past 9 = .ok (.ifCond .ne 5, 3) := by decide +kernel
theorem dX11_past_12 : decode cX11_past 12 = .ok (.iconst (-1), 1) := by decide +kernel
theorem dX11_past_13 : decode cX11_past 13 = .ok (.ireturn, 1) := by decide +kernel
theorem dX11_past_14 : decode cX11_past 14 = .ok (.aload_n 0, 1) := by decide +kernel
theorem dX11_past_15 : decode cX11_past 15 = .ok (.getfield 37, 3) := by decide +kernel
theorem dX11_past_18 : decode cX11_past 18 = .ok (.getfield 311, 3) := by decide +kernel
theorem dX11_past_21 : decode cX11_past 21 = .ok (.iload_n 1, 1) := by decide +kernel
theorem dX11_past_22 : decode cX11_past 22 = .ok (.iload_n 2, 1) := by decide +kernel
theorem dX11_past_23 : decode cX11_past 23 = .ok (.invokevirtual 314, 3) := by decide +kernel
theorem dX11_past_26 : decode cX11_past 26 = .ok (.ireturn, 1) := by decide +kernel
theorem dX11_log_0 : decode cX11_log 0 = .ok (.iload_n 1, 1) := by decide +kernel
theorem dX11_log_1 : decode cX11_log 1 = .ok (.ifCond .lt 11, 3) := by decide +kernel
theorem dX11_log_4 : decode cX11_log 4 = .ok (.iload_n 2, 1) := by decide +kernel
theorem dX11_log_5 : decode cX11_log 5 = .ok (.iconst 4, 1) := by decide +kernel
theorem dX11_log_6 : decode cX11_log 6 = .ok (.invokestatic 307, 3) := by decide +kernel
theorem dX11_log_9 : decode cX11_log 9 = .ok (.ifCond .ne 5, 3) := by decide +kernel
theorem dX11_log_12 : decode cX11_log 12 = .ok (.iconst (-1), 1) := by decide +kernel
theorem dX11_log_13 : decode cX11_log 13 = .ok (.ireturn, 1) := by decide +kernel
theorem dX11_log_14 : decode cX11_log 14 = .ok (.iload_n 1, 1) := by decide +kernel
theorem dX11_log_15 : decode cX11_log 15 = .ok (.aload_n 0, 1) := by decide +kernel
theorem dX11_log_16 : decode cX11_log 16 = .ok (.getfield 37, 3) := by decide +kernel
theorem dX11_log_19 : decode cX11_log 19 = .ok (.getfield 262, 3) := by decide +kernel
theorem dX11_log_22 : decode cX11_log 22 = .ok (.invokevirtual 266, 3) := by decide +kernel
theorem dX11_log_25 : decode cX11_log 25 = .ok (.if_icmp .lt 6, 3) := by decide +kernel
theorem dX11_log_28 : decode cX11_log 28 = .ok (.bipush (-2), 2) := by decide +kernel
theorem dX11_log_30 : decode cX11_log 30 = .ok (.ireturn, 1) := by decide +kernel
theorem dX11_log_31 : decode cX11_log 31 = .ok (.aload_n 0, 1) := by decide +kernel
theorem dX11_log_32 : decode cX11_log 32 = .ok (.getfield 37, 3) := by decide +kernel
theorem dX11_log_35 : decode cX11_log 35 = .ok (.getfield 262, 3) := by decide +kernel
theorem dX11_log_38 : decode cX11_log 38 = .ok (.aload_n 0, 1) := by decide +kernel
theorem dX11_log_39 : decode cX11_log 39 = .ok (.getfield 37, 3) := by decide +kernel
theorem dX11_log_42 : decode cX11_log 42 = .ok (.getfield 262, 3) := by decide +kernel
theorem dX11_log_45 : decode cX11_log 45 = .ok (.invokevirtual 317, 3) := by decide +kernel
theorem dX11_log_48 : decode cX11_log 48 = .ok (.iload_n 1, 1) := by decide +kernel
theorem dX11_log_49 : decode cX11_log 49 = .ok (.iadd, 1) := by decide +kernel
theorem dX11_log_50 : decode cX11_log 50 = .ok (.iload_n 2, 1) := by decide +kernel
theorem dX11_log_51 : decode cX11_log 51 = .ok (.invokevirtual 314, 3) := by decide +kernel
theorem dX11_log_54 : decode cX11_log 54 = .ok (.ireturn, 1) := by decide +kernel
theorem dX11_named_0 : decode cX11_named 0 = .ok (.iload_n 1, 1) := by decide +kernel
theorem dX11_named_1 : decode cX11_named 1 = .ok (.invokestatic 320, 3) := by decide +kernel
theorem dX11_named_4 : decode cX11_named 4 = .ok (.ifCond .ne 5, 3) := by decide +kernel
theorem dX11_named_7 : decode cX11_named 7 = .ok (.iconst (-1), 1) := by decide +kernel
theorem dX11_named_8 : decode cX11_named 8 = .ok (.ireturn, 1) := by decide +kernel
theorem dX11_named_9 : decode cX11_named 9 = .ok (.iload_n 2, 1) := by decide +kernel
theorem dX11_named_10 : decode cX11_named 10 = .ok (.ifCond .eq 14, 3) := by decide +kernel
theorem dX11_named_13 : decode cX11_named 13 = .ok (.aload_n 0, 1) := by decide +kernel
theorem dX11_named_14 : decode cX11_named 14 = .ok (.getfield 32, 3) := by decide +kernel
theorem dX11_named_17 : decode cX11_named 17 = .ok (.iload_n 1, 1) := by decide +kernel
theorem dX11_named_18 : decode cX11_named 18 = .ok (.invokevirtual 323, 3) := by decide +kernel
theorem dX11_named_21 : decode cX11_named 21 = .ok (.goto 11, 3) := by decide +kernel
theorem dX11_named_24 : decode cX11_named 24 = .ok (.aload_n 0, 1) := by decide +kernel
theorem dX11_named_25 : decode cX11_named 25 = .ok (.getfield 32, 3) := by decide +kernel
theorem dX11_named_28 : decode cX11_named 28 = .ok (.iload_n 1, 1) := by decide +kernel
theorem dX11_named_29 : decode cX11_named 29 = .ok (.invokevirtual 326, 3) := by decide +kernel
theorem dX11_named_32 : decode cX11_named 32 = .ok (.ireturn, 1) := by decide +kernel
theorem dX11_owners_0 : decode cX11_owners 0 = .ok (.iload_n 1, 1) := by decide +kernel
theorem dX11_owners_1 : decode cX11_owners 1 = .ok (.invokestatic 155, 3) := by decide +kernel
theorem dX11_owners_4 : decode cX11_owners 4 = .ok (.ifCond .eq 17, 3) := by decide +kernel
theorem dX11_owners_7 : decode cX11_owners 7 = .ok (.aload_n 0, 1) := by decide +kernel
theorem dX11_owners_8 : decode cX11_owners 8 = .ok (.getfield 37, 3) := by decide +kernel
theorem dX11_owners_11 : decode cX11_owners 11 = .ok (.getfield 158, 3) := by decide +kernel
theorem dX11_owners_14 : decode cX11_owners 14 = .ok (.iload_n 1, 1) := by decide +kernel
theorem dX11_owners_15 : decode cX11_owners 15 = .ok (.invokevirtual 329, 3) := by decide +kernel
theorem dX11_owners_18 : decode cX11_owners 18 = .ok (.goto 4, 3) := by decide +kernel
theorem dX11_owners_21 : decode cX11_owners 21 = .ok (.iconst (-1), 1) := by decide +kernel
theorem dX11_owners_22 : decode cX11_owners 22 = .ok (.ireturn, 1) := by decide +kernel
theorem dX11_carries_0 : decode cX11_carries 0 = .ok (.aload_n 0, 1) := by decide +kernel
theorem dX11_carries_1 : decode cX11_carries 1 = .ok (.iload_n 1, 1) := by decide +kernel
theorem dX11_carries_2 : decode cX11_carries 2 = .ok (.invokevirtual 136, 3) := by decide +kernel
theorem dX11_carries_5 : decode cX11_carries 5 = .ok (.ifCond .eq 17, 3) := by decide +kernel
theorem dX11_carries_8 : decode cX11_carries 8 = .ok (.aload_n 0, 1) := by decide +kernel
theorem dX11_carries_9 : decode cX11_carries 9 = .ok (.getfield 37, 3) := by decide +kernel
theorem dX11_carries_12 : decode cX11_carries 12 = .ok (.getfield 158, 3) := by decide +kernel
theorem dX11_carries_15 : decode cX11_carries 15 = .ok (.iload_n 1, 1) := by decide +kernel
theorem dX11_carries_16 : decode cX11_carries 16 = .ok (.invokevirtual 171, 3) := by decide +kernel
theorem dX11_carries_19 : decode cX11_carries 19 = .ok (.goto 4, 3) := by decide +kernel
theorem dX11_carries_22 : decode cX11_carries 22 = .ok (.iconst (-1), 1) := by decide +kernel
theorem dX11_carries_23 : decode cX11_carries 23 = .ok (.ireturn, 1) := by decide +kernel
theorem dX11_wrongOnes_0 : decode cX11_wrongOnes 0 = .ok (.aload_n 0, 1) := by decide +kernel
theorem dX11_wrongOnes_1 : decode cX11_wrongOnes 1 = .ok (.getfield 37, 3) := by decide +kernel
theorem dX11_wrongOnes_4 : decode cX11_wrongOnes 4 = .ok (.getfield 158, 3) := by decide +kernel
theorem dX11_wrongOnes_7 : decode cX11_wrongOnes 7 = .ok (.invokevirtual 271, 3) := by decide +kernel
theorem dX11_wrongOnes_10 : decode cX11_wrongOnes 10 = .ok (.ireturn, 1) := by decide +kernel
theorem dX11_why_0 : decode cX11_why 0 = .ok (.aload_n 0, 1) := by decide +kernel
theorem dX11_why_1 : decode cX11_why 1 = .ok (.iload_n 1, 1) := by decide +kernel
theorem dX11_why_2 : decode cX11_why 2 = .ok (.iload_n 2, 1) := by decide +kernel
theorem dX11_why_3 : decode cX11_why 3 = .ok (.iload_n 3, 1) := by decide +kernel
theorem dX11_why_4 : decode cX11_why 4 = .ok (.invokevirtual 185, 3) := by decide +kernel
theorem dX11_why_7 : decode cX11_why 7 = .ok (.istore 4, 2) := by decide +kernel
theorem dX11_why_9 : decode cX11_why 9 = .ok (.iload 4, 2) := by decide +kernel
theorem dX11_why_11 : decode cX11_why 11 = .ok (.ifCond .eq 8, 3) := by decide +kernel
theorem dX11_why_14 : decode cX11_why 14 = .ok (.iload 4, 2) := by decide +kernel
theorem dX11_why_16 : decode cX11_why 16 = .ok (.goto 13, 3) := by decide +kernel
theorem dX11_why_19 : decode cX11_why 19 = .ok (.aload_n 0, 1) := by decide +kernel
theorem dX11_why_20 : decode cX11_why 20 = .ok (.getfield 24, 3) := by decide +kernel
theorem dX11_why_23 : decode cX11_why 23 = .ok (.iload_n 1, 1) := by decide +kernel
theorem dX11_why_24 : decode cX11_why 24 = .ok (.iload_n 2, 1) := by decide +kernel
theorem dX11_why_25 : decode cX11_why 25 = .ok (.iload_n 3, 1) := by decide +kernel
theorem dX11_why_26 : decode cX11_why 26 = .ok (.invokevirtual 332, 3) := by decide +kernel
theorem dX11_why_29 : decode cX11_why 29 = .ok (.ireturn, 1) := by decide +kernel
theorem dX11_needIfHome_0 : decode cX11_needIfHome 0 = .ok (.aload_n 0, 1) := by decide +kernel
theorem dX11_needIfHome_1 : decode cX11_needIfHome 1 = .ok (.iload_n 1, 1) := by decide +kernel
theorem dX11_needIfHome_2 : decode cX11_needIfHome 2 = .ok (.invokevirtual 101, 3) := by decide +kernel
theorem dX11_needIfHome_5 : decode cX11_needIfHome 5 = .ok (.ifCond .ne 5, 3) := by decide +kernel
theorem dX11_needIfHome_8 : decode cX11_needIfHome 8 = .ok (.iconst (-1), 1) := by decide +kernel
theorem dX11_needIfHome_9 : decode cX11_needIfHome 9 = .ok (.ireturn, 1) := by decide +kernel
theorem dX11_needIfHome_10 : decode cX11_needIfHome 10 = .ok (.aload_n 0, 1) := by decide +kernel
theorem dX11_needIfHome_11 : decode cX11_needIfHome 11 = .ok (.getfield 37, 3) := by decide +kernel
theorem dX11_needIfHome_14 : decode cX11_needIfHome 14 = .ok (.getfield 108, 3) := by decide +kernel
theorem dX11_needIfHome_17 : decode cX11_needIfHome 17 = .ok (.iload_n 1, 1) := by decide +kernel
theorem dX11_needIfHome_18 : decode cX11_needIfHome 18 = .ok (.invokevirtual 112, 3) := by decide +kernel
theorem dX11_needIfHome_21 : decode cX11_needIfHome 21 = .ok (.ifCond .ne 6, 3) := by decide +kernel
theorem dX11_needIfHome_24 : decode cX11_needIfHome 24 = .ok (.bipush (-4), 2) := by decide +kernel
theorem dX11_needIfHome_26 : decode cX11_needIfHome 26 = .ok (.ireturn, 1) := by decide +kernel
theorem dX11_needIfHome_27 : decode cX11_needIfHome 27 = .ok (.aload_n 0, 1) := by decide +kernel
theorem dX11_needIfHome_28 : decode cX11_needIfHome 28 = .ok (.getfield 24, 3) := by decide +kernel
theorem dX11_needIfHome_31 : decode cX11_needIfHome 31 = .ok (.aload_n 0, 1) := by decide +kernel
theorem dX11_needIfHome_32 : decode cX11_needIfHome 32 = .ok (.getfield 37, 3) := by decide +kernel
theorem dX11_needIfHome_35 : decode cX11_needIfHome 35 = .ok (.getfield 222, 3) := by decide +kernel
theorem dX11_needIfHome_38 : decode cX11_needIfHome 38 = .ok (.aload_n 0, 1) := by decide +kernel
theorem dX11_needIfHome_39 : decode cX11_needIfHome 39 = .ok (.getfield 37, 3) := by decide +kernel
theorem dX11_needIfHome_42 : decode cX11_needIfHome 42 = .ok (.getfield 108, 3) := by decide +kernel
theorem dX11_needIfHome_45 : decode cX11_needIfHome 45 = .ok (.invokevirtual 238, 3) := by decide +kernel
theorem dX11_needIfHome_48 : decode cX11_needIfHome 48 = .ok (.iconst 1, 1) := by decide +kernel
theorem dX11_needIfHome_49 : decode cX11_needIfHome 49 = .ok (.isub, 1) := by decide +kernel
theorem dX11_needIfHome_50 : decode cX11_needIfHome 50 = .ok (.invokevirtual 335, 3) := by decide +kernel
theorem dX11_needIfHome_53 : decode cX11_needIfHome 53 = .ok (.ireturn, 1) := by decide +kernel
theorem dX11_leads_0 : decode cX11_leads 0 = .ok (.aload_n 0, 1) := by decide +kernel
theorem dX11_leads_1 : decode cX11_leads 1 = .ok (.getfield 24, 3) := by decide +kernel
theorem dX11_leads_4 : decode cX11_leads 4 = .ok (.invokevirtual 148, 3) := by decide +kernel
theorem dX11_leads_7 : decode cX11_leads 7 = .ok (.ifCond .eq 13, 3) := by decide +kernel
theorem dX11_leads_10 : decode cX11_leads 10 = .ok (.aload_n 0, 1) := by decide +kernel
theorem dX11_leads_11 : decode cX11_leads 11 = .ok (.getfield 24, 3) := by decide +kernel
theorem dX11_leads_14 : decode cX11_leads 14 = .ok (.invokevirtual 253, 3) := by decide +kernel
theorem dX11_leads_17 : decode cX11_leads 17 = .ok (.goto 5, 3) := by decide +kernel
theorem dX11_leads_20 : decode cX11_leads 20 = .ok (.bipush (-5), 2) := by decide +kernel
theorem dX11_leads_22 : decode cX11_leads 22 = .ok (.ireturn, 1) := by decide +kernel
theorem dX11_truly_0 : decode cX11_truly 0 = .ok (.aload_n 0, 1) := by decide +kernel
theorem dX11_truly_1 : decode cX11_truly 1 = .ok (.getfield 24, 3) := by decide +kernel
theorem dX11_truly_4 : decode cX11_truly 4 = .ok (.invokevirtual 195, 3) := by decide +kernel
theorem dX11_truly_7 : decode cX11_truly 7 = .ok (.ifCond .ne 8, 3) := by decide +kernel
theorem dX11_truly_10 : decode cX11_truly 10 = .ok (.bipush (-5), 2) := by decide +kernel
theorem dX11_truly_12 : decode cX11_truly 12 = .ok (.goto 10, 3) := by decide +kernel
theorem dX11_truly_15 : decode cX11_truly 15 = .ok (.aload_n 0, 1) := by decide +kernel
theorem dX11_truly_16 : decode cX11_truly 16 = .ok (.getfield 24, 3) := by decide +kernel
theorem dX11_truly_19 : decode cX11_truly 19 = .ok (.invokevirtual 338, 3) := by decide +kernel
theorem dX11_truly_22 : decode cX11_truly 22 = .ok (.ireturn, 1) := by decide +kernel
theorem dX11_canWin_0 : decode cX11_canWin 0 = .ok (.iload_n 1, 1) := by decide +kernel
theorem dX11_canWin_1 : decode cX11_canWin 1 = .ok (.invokestatic 155, 3) := by decide +kernel
theorem dX11_canWin_4 : decode cX11_canWin 4 = .ok (.ifCond .eq 24, 3) := by decide +kernel
theorem dX11_canWin_7 : decode cX11_canWin 7 = .ok (.aload_n 0, 1) := by decide +kernel
theorem dX11_canWin_8 : decode cX11_canWin 8 = .ok (.getfield 24, 3) := by decide +kernel
theorem dX11_canWin_11 : decode cX11_canWin 11 = .ok (.invokevirtual 148, 3) := by decide +kernel
theorem dX11_canWin_14 : decode cX11_canWin 14 = .ok (.ifCond .eq 14, 3) := by decide +kernel
theorem dX11_canWin_17 : decode cX11_canWin 17 = .ok (.iload_n 1, 1) := by decide +kernel
theorem dX11_canWin_18 : decode cX11_canWin 18 = .ok (.aload_n 0, 1) := by decide +kernel
theorem dX11_canWin_19 : decode cX11_canWin 19 = .ok (.getfield 37, 3) := by decide +kernel
theorem dX11_canWin_22 : decode cX11_canWin 22 = .ok (.getfield 250, 3) := by decide +kernel
theorem dX11_canWin_25 : decode cX11_canWin 25 = .ok (.if_icmp .lt 5, 3) := by decide +kernel
theorem dX11_canWin_28 : decode cX11_canWin 28 = .ok (.iconst 0, 1) := by decide +kernel
theorem dX11_canWin_29 : decode cX11_canWin 29 = .ok (.ireturn, 1) := by decide +kernel
theorem dX11_canWin_30 : decode cX11_canWin 30 = .ok (.aload_n 0, 1) := by decide +kernel
theorem dX11_canWin_31 : decode cX11_canWin 31 = .ok (.getfield 24, 3) := by decide +kernel
theorem dX11_canWin_34 : decode cX11_canWin 34 = .ok (.iload_n 1, 1) := by decide +kernel
theorem dX11_canWin_35 : decode cX11_canWin 35 = .ok (.invokevirtual 341, 3) := by decide +kernel
theorem dX11_canWin_38 : decode cX11_canWin 38 = .ok (.iload_n 1, 1) := by decide +kernel
theorem dX11_canWin_39 : decode cX11_canWin 39 = .ok (.if_icmp .ne 7, 3) := by decide +kernel
theorem dX11_canWin_42 : decode cX11_canWin 42 = .ok (.iconst 1, 1) := by decide +kernel
theorem dX11_canWin_43 : decode cX11_canWin 43 = .ok (.goto 4, 3) := by decide +kernel
theorem dX11_canWin_46 : decode cX11_canWin 46 = .ok (.iconst 0, 1) := by decide +kernel
theorem dX11_canWin_47 : decode cX11_canWin 47 = .ok (.ireturn, 1) := by decide +kernel
theorem dX11_decisive_0 : decode cX11_decisive 0 = .ok (.aload_n 0, 1) := by decide +kernel
theorem dX11_decisive_1 : decode cX11_decisive 1 = .ok (.getfield 24, 3) := by decide +kernel
theorem dX11_decisive_4 : decode cX11_decisive 4 = .ok (.invokevirtual 195, 3) := by decide +kernel
theorem dX11_decisive_7 : decode cX11_decisive 7 = .ok (.ifCond .ne 8, 3) := by decide +kernel
theorem dX11_decisive_10 : decode cX11_decisive 10 = .ok (.bipush (-5), 2) := by decide +kernel
theorem dX11_decisive_12 : decode cX11_decisive 12 = .ok (.goto 10, 3) := by decide +kernel
theorem dX11_decisive_15 : decode cX11_decisive 15 = .ok (.aload_n 0, 1) := by decide +kernel
theorem dX11_decisive_16 : decode cX11_decisive 16 = .ok (.getfield 24, 3) := by decide +kernel
theorem dX11_decisive_19 : decode cX11_decisive 19 = .ok (.invokevirtual 344, 3) := by decide +kernel
theorem dX11_decisive_22 : decode cX11_decisive 22 = .ok (.ireturn, 1) := by decide +kernel
theorem dX11_lacks_0 : decode cX11_lacks 0 = .ok (.aload_n 0, 1) := by decide +kernel
theorem dX11_lacks_1 : decode cX11_lacks 1 = .ok (.getfield 24, 3) := by decide +kernel
theorem dX11_lacks_4 : decode cX11_lacks 4 = .ok (.invokevirtual 148, 3) := by decide +kernel
theorem dX11_lacks_7 : decode cX11_lacks 7 = .ok (.ifCond .ne 6, 3) := by decide +kernel
theorem dX11_lacks_10 : decode cX11_lacks 10 = .ok (.bipush (-5), 2) := by decide +kernel
theorem dX11_lacks_12 : decode cX11_lacks 12 = .ok (.ireturn, 1) := by decide +kernel
theorem dX11_lacks_13 : decode cX11_lacks 13 = .ok (.aload_n 0, 1) := by decide +kernel
theorem dX11_lacks_14 : decode cX11_lacks 14 = .ok (.getfield 24, 3) := by decide +kernel
theorem dX11_lacks_17 : decode cX11_lacks 17 = .ok (.invokevirtual 244, 3) := by decide +kernel
theorem dX11_lacks_20 : decode cX11_lacks 20 = .ok (.aload_n 0, 1) := by decide +kernel
theorem dX11_lacks_21 : decode cX11_lacks 21 = .ok (.getfield 37, 3) := by decide +kernel
theorem dX11_lacks_24 : decode cX11_lacks 24 = .ok (.getfield 158, 3) := by decide +kernel
theorem dX11_lacks_27 : decode cX11_lacks 27 = .ok (.invokevirtual 247, 3) := by decide +kernel
theorem dX11_lacks_30 : decode cX11_lacks 30 = .ok (.isub, 1) := by decide +kernel
theorem dX11_lacks_31 : decode cX11_lacks 31 = .ok (.iconst 0, 1) := by decide +kernel
theorem dX11_lacks_32 : decode cX11_lacks 32 = .ok (.invokestatic 347, 3) := by decide +kernel
theorem dX11_lacks_35 : decode cX11_lacks 35 = .ok (.ireturn, 1) := by decide +kernel
theorem dX11_needIn_0 : decode cX11_needIn 0 = .ok (.iload_n 1, 1) := by decide +kernel
theorem dX11_needIn_1 : decode cX11_needIn 1 = .ok (.ifCond .lt 10, 3) := by decide +kernel
theorem dX11_needIn_4 : decode cX11_needIn 4 = .ok (.iload_n 1, 1) := by decide +kernel
theorem dX11_needIn_5 : decode cX11_needIn 5 = .ok (.sipush 999, 3) := by decide +kernel
theorem dX11_needIn_8 : decode cX11_needIn 8 = .ok (.if_icmp .le 5, 3) := by decide +kernel
theorem dX11_needIn_11 : decode cX11_needIn 11 = .ok (.iconst (-1), 1) := by decide +kernel
theorem dX11_needIn_12 : decode cX11_needIn 12 = .ok (.ireturn, 1) := by decide +kernel
theorem dX11_needIn_13 : decode cX11_needIn 13 = .ok (.aload_n 0, 1) := by decide +kernel
theorem dX11_needIn_14 : decode cX11_needIn 14 = .ok (.getfield 24, 3) := by decide +kernel
theorem dX11_needIn_17 : decode cX11_needIn 17 = .ok (.iload_n 1, 1) := by decide +kernel
theorem dX11_needIn_18 : decode cX11_needIn 18 = .ok (.invokevirtual 352, 3) := by decide +kernel
theorem dX11_needIn_21 : decode cX11_needIn 21 = .ok (.ireturn, 1) := by decide +kernel
theorem dX11_bestDay_0 : decode cX11_bestDay 0 = .ok (.iload_n 1, 1) := by decide +kernel
theorem dX11_bestDay_1 : decode cX11_bestDay 1 = .ok (.invokestatic 105, 3) := by decide +kernel
theorem dX11_bestDay_4 : decode cX11_bestDay 4 = .ok (.ifCond .eq 14, 3) := by decide +kernel
theorem dX11_bestDay_7 : decode cX11_bestDay 7 = .ok (.aload_n 0, 1) := by decide +kernel
theorem dX11_bestDay_8 : decode cX11_bestDay 8 = .ok (.getfield 24, 3) := by decide +kernel
theorem dX11_bestDay_11 : decode cX11_bestDay 11 = .ok (.iload_n 1, 1) := by decide +kernel
theorem dX11_bestDay_12 : decode cX11_bestDay 12 = .ok (.invokevirtual 355, 3) := by decide +kernel
theorem dX11_bestDay_15 : decode cX11_bestDay 15 = .ok (.goto 4, 3) := by decide +kernel
theorem dX11_bestDay_18 : decode cX11_bestDay 18 = .ok (.iconst (-1), 1) := by decide +kernel
theorem dX11_bestDay_19 : decode cX11_bestDay 19 = .ok (.ireturn, 1) := by decide +kernel
theorem dX11_mightiest_0 : decode cX11_mightiest 0 = .ok (.aload_n 0, 1) := by decide +kernel
theorem dX11_mightiest_1 : decode cX11_mightiest 1 = .ok (.getfield 24, 3) := by decide +kernel
theorem dX11_mightiest_4 : decode cX11_mightiest 4 = .ok (.invokevirtual 358, 3) := by decide +kernel
theorem dX11_mightiest_7 : decode cX11_mightiest 7 = .ok (.ireturn, 1) := by decide +kernel
theorem dX11_agrees_0 : decode cX11_agrees 0 = .ok (.aload_n 0, 1) := by decide +kernel
theorem dX11_agrees_1 : decode cX11_agrees 1 = .ok (.getfield 37, 3) := by decide +kernel
theorem dX11_agrees_4 : decode cX11_agrees 4 = .ok (.getfield 158, 3) := by decide +kernel
theorem dX11_agrees_7 : decode cX11_agrees 7 = .ok (.invokevirtual 247, 3) := by decide +kernel
theorem dX11_agrees_10 : decode cX11_agrees 10 = .ok (.aload_n 0, 1) := by decide +kernel
theorem dX11_agrees_11 : decode cX11_agrees 11 = .ok (.getfield 37, 3) := by decide +kernel
theorem dX11_agrees_14 : decode cX11_agrees 14 = .ok (.getfield 158, 3) := by decide +kernel
theorem dX11_agrees_17 : decode cX11_agrees 17 = .ok (.invokevirtual 256, 3) := by decide +kernel
theorem dX11_agrees_20 : decode cX11_agrees 20 = .ok (.iadd, 1) := by decide +kernel
theorem dX11_agrees_21 : decode cX11_agrees 21 = .ok (.aload_n 0, 1) := by decide +kernel
theorem dX11_agrees_22 : decode cX11_agrees 22 = .ok (.getfield 37, 3) := by decide +kernel
theorem dX11_agrees_25 : decode cX11_agrees 25 = .ok (.getfield 361, 3) := by decide +kernel
theorem dX11_agrees_28 : decode cX11_agrees 28 = .ok (.if_icmp .ne 7, 3) := by decide +kernel
theorem dX11_agrees_31 : decode cX11_agrees 31 = .ok (.iconst 1, 1) := by decide +kernel
theorem dX11_agrees_32 : decode cX11_agrees 32 = .ok (.goto 4, 3) := by decide +kernel
theorem dX11_agrees_35 : decode cX11_agrees 35 = .ok (.iconst 0, 1) := by decide +kernel
theorem dX11_agrees_36 : decode cX11_agrees 36 = .ok (.ireturn, 1) := by decide +kernel
theorem dX11_share_0 : decode cX11_share 0 = .ok (.iload_n 1, 1) := by decide +kernel
theorem dX11_share_1 : decode cX11_share 1 = .ok (.invokestatic 155, 3) := by decide +kernel
theorem dX11_share_4 : decode cX11_share 4 = .ok (.ifCond .ne 7, 3) := by decide +kernel
theorem dX11_share_7 : decode cX11_share 7 = .ok (.ldc_w 364, 3) := by decide +kernel
theorem dX11_share_10 : decode cX11_share 10 = .ok (.freturn, 1) := by decide +kernel
theorem dX11_share_11 : decode cX11_share 11 = .ok (.aload_n 0, 1) := by decide +kernel
theorem dX11_share_12 : decode cX11_share 12 = .ok (.getfield 37, 3) := by decide +kernel
theorem dX11_share_15 : decode cX11_share 15 = .ok (.getfield 158, 3) := by decide +kernel
theorem dX11_share_18 : decode cX11_share 18 = .ok (.invokevirtual 247, 3) := by decide +kernel
theorem dX11_share_21 : decode cX11_share 21 = .ok (.istore_n 2, 1) := by decide +kernel
theorem dX11_share_22 : decode cX11_share 22 = .ok (.iload_n 2, 1) := by decide +kernel
theorem dX11_share_23 : decode cX11_share 23 = .ok (.ifCond .ne 7, 3) := by decide +kernel
theorem dX11_share_26 : decode cX11_share 26 = .ok (.fconst 0, 1) := by decide +kernel
theorem dX11_share_27 : decode cX11_share 27 = .ok (.goto 18, 3) := by decide +kernel
theorem dX11_share_30 : decode cX11_share 30 = .ok (.aload_n 0, 1) := by decide +kernel
theorem dX11_share_31 : decode cX11_share 31 = .ok (.getfield 37, 3) := by decide +kernel
theorem dX11_share_34 : decode cX11_share 34 = .ok (.getfield 158, 3) := by decide +kernel
theorem dX11_share_37 : decode cX11_share 37 = .ok (.iload_n 1, 1) := by decide +kernel
theorem dX11_share_38 : decode cX11_share 38 = .ok (.invokevirtual 304, 3) := by decide +kernel
theorem dX11_share_41 : decode cX11_share 41 = .ok (.i2f, 1) := by decide +kernel
theorem dX11_share_42 : decode cX11_share 42 = .ok (.iload_n 2, 1) := by decide +kernel
theorem dX11_share_43 : decode cX11_share 43 = .ok (.i2f, 1) := by decide +kernel
theorem dX11_share_44 : decode cX11_share 44 = .ok (.fdiv, 1) := by decide +kernel
theorem dX11_share_45 : decode cX11_share 45 = .ok (.freturn, 1) := by decide +kernel
theorem dX11_seafaring_0 : decode cX11_seafaring 0 = .ok (.aload_n 0, 1) := by decide +kernel
theorem dX11_seafaring_1 : decode cX11_seafaring 1 = .ok (.getfield 37, 3) := by decide +kernel
theorem dX11_seafaring_4 : decode cX11_seafaring 4 = .ok (.getfield 222, 3) := by decide +kernel
theorem dX11_seafaring_7 : decode cX11_seafaring 7 = .ok (.i2l, 1) := by decide +kernel
theorem dX11_seafaring_8 : decode cX11_seafaring 8 = .ok (.aload_n 0, 1) := by decide +kernel
theorem dX11_seafaring_9 : decode cX11_seafaring 9 = .ok (.getfield 32, 3) := by decide +kernel
theorem dX11_seafaring_12 : decode cX11_seafaring 12 = .ok (.invokevirtual 96, 3) := by decide +kernel
theorem dX11_seafaring_15 : decode cX11_seafaring 15 = .ok (.i2l, 1) := by decide +kernel
theorem dX11_seafaring_16 : decode cX11_seafaring 16 = .ok (.lmul, 1) := by decide +kernel
theorem dX11_seafaring_17 : decode cX11_seafaring 17 = .ok (.lstore_n 1, 1) := by decide +kernel
theorem dX11_seafaring_18 : decode cX11_seafaring 18 = .ok (.lload_n 1, 1) := by decide +kernel
theorem dX11_seafaring_19 : decode cX11_seafaring 19 = .ok (.lconst 0, 1) := by decide +kernel
theorem dX11_seafaring_20 : decode cX11_seafaring 20 = .ok (.lcmp, 1) := by decide +kernel
theorem dX11_seafaring_21 : decode cX11_seafaring 21 = .ok (.ifCond .ne 7, 3) := by decide +kernel
theorem dX11_seafaring_24 : decode cX11_seafaring 24 = .ok (.dconst 0, 1) := by decide +kernel
theorem dX11_seafaring_25 : decode cX11_seafaring 25 = .ok (.goto 17, 3) := by decide +kernel
theorem dX11_seafaring_28 : decode cX11_seafaring 28 = .ok (.aload_n 0, 1) := by decide +kernel
theorem dX11_seafaring_29 : decode cX11_seafaring 29 = .ok (.getfield 37, 3) := by decide +kernel
theorem dX11_seafaring_32 : decode cX11_seafaring 32 = .ok (.getfield 108, 3) := by decide +kernel
theorem dX11_seafaring_35 : decode cX11_seafaring 35 = .ok (.invokevirtual 365, 3) := by decide +kernel
theorem dX11_seafaring_38 : decode cX11_seafaring 38 = .ok (.l2d, 1) := by decide +kernel
theorem dX11_seafaring_39 : decode cX11_seafaring 39 = .ok (.lload_n 1, 1) := by decide +kernel
theorem dX11_seafaring_40 : decode cX11_seafaring 40 = .ok (.l2d, 1) := by decide +kernel
theorem dX11_seafaring_41 : decode cX11_seafaring 41 = .ok (.ddiv, 1) := by decide +kernel
theorem dX11_seafaring_42 : decode cX11_seafaring 42 = .ok (.dreturn, 1) := by decide +kernel
theorem dX11_viewLength_0 : decode cX11_viewLength 0 = .ok (.aload_n 0, 1) := by decide +kernel
theorem dX11_viewLength_1 : decode cX11_viewLength 1 = .ok (.getfield 59, 3) := by decide +kernel
theorem dX11_viewLength_4 : decode cX11_viewLength 4 = .ok (.aload_n 0, 1) := by decide +kernel
theorem dX11_viewLength_5 : decode cX11_viewLength 5 = .ok (.getfield 32, 3) := by decide +kernel
theorem dX11_viewLength_8 : decode cX11_viewLength 8 = .ok (.aload_n 0, 1) := by decide +kernel
theorem dX11_viewLength_9 : decode cX11_viewLength 9 = .ok (.getfield 37, 3) := by decide +kernel
theorem dX11_viewLength_12 : decode cX11_viewLength 12 = .ok (.invokevirtual 369, 3) := by decide +kernel
theorem dX11_viewLength_15 : decode cX11_viewLength 15 = .ok (.invokevirtual 70, 3) := by decide +kernel
theorem dX11_viewLength_18 : decode cX11_viewLength 18 = .ok (.ireturn, 1) := by decide +kernel
theorem dX11_viewByte_0 : decode cX11_viewByte 0 = .ok (.iload_n 1, 1) := by decide +kernel
theorem dX11_viewByte_1 : decode cX11_viewByte 1 = .ok (.ifCond .ge 7, 3) := by decide +kernel
theorem dX11_viewByte_4 : decode cX11_viewByte 4 = .ok (.iconst (-1), 1) := by decide +kernel
theorem dX11_viewByte_5 : decode cX11_viewByte 5 = .ok (.goto 22, 3) := by decide +kernel
theorem dX11_viewByte_8 : decode cX11_viewByte 8 = .ok (.aload_n 0, 1) := by decide +kernel
theorem dX11_viewByte_9 : decode cX11_viewByte 9 = .ok (.getfield 59, 3) := by decide +kernel
theorem dX11_viewByte_12 : decode cX11_viewByte 12 = .ok (.aload_n 0, 1) := by decide +kernel
theorem dX11_viewByte_13 : decode cX11_viewByte 13 = .ok (.getfield 32, 3) := by decide +kernel
theorem dX11_viewByte_16 : decode cX11_viewByte 16 = .ok (.aload_n 0, 1) := by decide +kernel
theorem dX11_viewByte_17 : decode cX11_viewByte 17 = .ok (.getfield 37, 3) := by decide +kernel
theorem dX11_viewByte_20 : decode cX11_viewByte 20 = .ok (.invokevirtual 369, 3) := by decide +kernel
theorem dX11_viewByte_23 : decode cX11_viewByte 23 = .ok (.iload_n 1, 1) := by decide +kernel
theorem dX11_viewByte_24 : decode cX11_viewByte 24 = .ok (.invokevirtual 373, 3) := by decide +kernel
theorem dX11_viewByte_27 : decode cX11_viewByte 27 = .ok (.ireturn, 1) := by decide +kernel
theorem dX11_storyLength_0 : decode cX11_storyLength 0 = .ok (.aload_n 0, 1) := by decide +kernel
theorem dX11_storyLength_1 : decode cX11_storyLength 1 = .ok (.getfield 59, 3) := by decide +kernel
theorem dX11_storyLength_4 : decode cX11_storyLength 4 = .ok (.aload_n 0, 1) := by decide +kernel
theorem dX11_storyLength_5 : decode cX11_storyLength 5 = .ok (.getfield 37, 3) := by decide +kernel
theorem dX11_storyLength_8 : decode cX11_storyLength 8 = .ok (.getfield 262, 3) := by decide +kernel
theorem dX11_storyLength_11 : decode cX11_storyLength 11 = .ok (.invokevirtual 376, 3) := by decide +kernel
theorem dX11_storyLength_14 : decode cX11_storyLength 14 = .ok (.invokevirtual 70, 3) := by decide +kernel
theorem dX11_storyLength_17 : decode cX11_storyLength 17 = .ok (.ireturn, 1) := by decide +kernel
theorem dX11_storyByte_0 : decode cX11_storyByte 0 = .ok (.iload_n 1, 1) := by decide +kernel
theorem dX11_storyByte_1 : decode cX11_storyByte 1 = .ok (.ifCond .ge 7, 3) := by decide +kernel
theorem dX11_storyByte_4 : decode cX11_storyByte 4 = .ok (.iconst (-1), 1) := by decide +kernel
theorem dX11_storyByte_5 : decode cX11_storyByte 5 = .ok (.goto 21, 3) := by decide +kernel
theorem dX11_storyByte_8 : decode cX11_storyByte 8 = .ok (.aload_n 0, 1) := by decide +kernel
theorem dX11_storyByte_9 : decode cX11_storyByte 9 = .ok (.getfield 59, 3) := by decide +kernel
theorem dX11_storyByte_12 : decode cX11_storyByte 12 = .ok (.aload_n 0, 1) := by decide +kernel
theorem dX11_storyByte_13 : decode cX11_storyByte 13 = .ok (.getfield 37, 3) := by decide +kernel
theorem dX11_storyByte_16 : decode cX11_storyByte 16 = .ok (.getfield 262, 3) := by decide +kernel
theorem dX11_storyByte_19 : decode cX11_storyByte 19 = .ok (.invokevirtual 376, 3) := by decide +kernel
theorem dX11_storyByte_22 : decode cX11_storyByte 22 = .ok (.iload_n 1, 1) := by decide +kernel
theorem dX11_storyByte_23 : decode cX11_storyByte 23 = .ok (.invokevirtual 373, 3) := by decide +kernel
theorem dX11_storyByte_26 : decode cX11_storyByte 26 = .ok (.ireturn, 1) := by decide +kernel
theorem dX11_setupLength_0 : decode cX11_setupLength 0 = .ok (.aload_n 0, 1) := by decide +kernel
theorem dX11_setupLength_1 : decode cX11_setupLength 1 = .ok (.getfield 59, 3) := by decide +kernel
theorem dX11_setupLength_4 : decode cX11_setupLength 4 = .ok (.aload_n 0, 1) := by decide +kernel
theorem dX11_setupLength_5 : decode cX11_setupLength 5 = .ok (.getfield 32, 3) := by decide +kernel
theorem dX11_setupLength_8 : decode cX11_setupLength 8 = .ok (.aload_n 0, 1) := by decide +kernel
theorem dX11_setupLength_9 : decode cX11_setupLength 9 = .ok (.getfield 37, 3) := by decide +kernel
theorem dX11_setupLength_12 : decode cX11_setupLength 12 = .ok (.getfield 108, 3) := by decide +kernel
theorem dX11_setupLength_15 : decode cX11_setupLength 15 = .ok (.invokevirtual 380, 3) := by decide +kernel
theorem dX11_setupLength_18 : decode cX11_setupLength 18 = .ok (.invokevirtual 70, 3) := by decide +kernel
theorem dX11_setupLength_21 : decode cX11_setupLength 21 = .ok (.ireturn, 1) := by decide +kernel
theorem dX11_setupByte_0 : decode cX11_setupByte 0 = .ok (.iload_n 1, 1) := by decide +kernel
theorem dX11_setupByte_1 : decode cX11_setupByte 1 = .ok (.ifCond .ge 7, 3) := by decide +kernel
theorem dX11_setupByte_4 : decode cX11_setupByte 4 = .ok (.iconst (-1), 1) := by decide +kernel
theorem dX11_setupByte_5 : decode cX11_setupByte 5 = .ok (.goto 25, 3) := by decide +kernel
theorem dX11_setupByte_8 : decode cX11_setupByte 8 = .ok (.aload_n 0, 1) := by decide +kernel
theorem dX11_setupByte_9 : decode cX11_setupByte 9 = .ok (.getfield 59, 3) := by decide +kernel
theorem dX11_setupByte_12 : decode cX11_setupByte 12 = .ok (.aload_n 0, 1) := by decide +kernel
theorem dX11_setupByte_13 : decode cX11_setupByte 13 = .ok (.getfield 32, 3) := by decide +kernel
theorem dX11_setupByte_16 : decode cX11_setupByte 16 = .ok (.aload_n 0, 1) := by decide +kernel
theorem dX11_setupByte_17 : decode cX11_setupByte 17 = .ok (.getfield 37, 3) := by decide +kernel
theorem dX11_setupByte_20 : decode cX11_setupByte 20 = .ok (.getfield 108, 3) := by decide +kernel
theorem dX11_setupByte_23 : decode cX11_setupByte 23 = .ok (.invokevirtual 380, 3) := by decide +kernel
theorem dX11_setupByte_26 : decode cX11_setupByte 26 = .ok (.iload_n 1, 1) := by decide +kernel
theorem dX11_setupByte_27 : decode cX11_setupByte 27 = .ok (.invokevirtual 373, 3) := by decide +kernel
theorem dX11_setupByte_30 : decode cX11_setupByte 30 = .ok (.ireturn, 1) := by decide +kernel
theorem dX11_tapeLength_0 : decode cX11_tapeLength 0 = .ok (.aload_n 0, 1) := by decide +kernel
theorem dX11_tapeLength_1 : decode cX11_tapeLength 1 = .ok (.getfield 20, 3) := by decide +kernel
theorem dX11_tapeLength_4 : decode cX11_tapeLength 4 = .ok (.invokevirtual 70, 3) := by decide +kernel
theorem dX11_tapeLength_7 : decode cX11_tapeLength 7 = .ok (.ireturn, 1) := by decide +kernel
theorem dX11_isIn_0 : decode cX11_isIn 0 = .ok (.iload_n 0, 1) := by decide +kernel
theorem dX11_isIn_1 : decode cX11_isIn 1 = .ok (.ifCond .lt 12, 3) := by decide +kernel
theorem dX11_isIn_4 : decode cX11_isIn 4 = .ok (.iload_n 0, 1) := by decide +kernel
theorem dX11_isIn_5 : decode cX11_isIn 5 = .ok (.iload_n 1, 1) := by decide +kernel
theorem dX11_isIn_6 : decode cX11_isIn 6 = .ok (.if_icmp .ge 7, 3) := by decide +kernel
theorem dX11_isIn_9 : decode cX11_isIn 9 = .ok (.iconst 1, 1) := by decide +kernel
theorem dX11_isIn_10 : decode cX11_isIn 10 = .ok (.goto 4, 3) := by decide +kernel
theorem dX11_isIn_13 : decode cX11_isIn 13 = .ok (.iconst 0, 1) := by decide +kernel
theorem dX11_isIn_14 : decode cX11_isIn 14 = .ok (.ireturn, 1) := by decide +kernel
theorem dX11_isDays_0 : decode cX11_isDays 0 = .ok (.iload_n 0, 1) := by decide +kernel
theorem dX11_isDays_1 : decode cX11_isDays 1 = .ok (.iconst 1, 1) := by decide +kernel
theorem dX11_isDays_2 : decode cX11_isDays 2 = .ok (.if_icmp .lt 13, 3) := by decide +kernel
theorem dX11_isDays_5 : decode cX11_isDays 5 = .ok (.iload_n 0, 1) := by decide +kernel
theorem dX11_isDays_6 : decode cX11_isDays 6 = .ok (.bipush 99, 2) := by decide +kernel
theorem dX11_isDays_8 : decode cX11_isDays 8 = .ok (.if_icmp .gt 7, 3) := by decide +kernel
theorem dX11_isDays_11 : decode cX11_isDays 11 = .ok (.iconst 1, 1) := by decide +kernel
theorem dX11_isDays_12 : decode cX11_isDays 12 = .ok (.goto 4, 3) := by decide +kernel
theorem dX11_isDays_15 : decode cX11_isDays 15 = .ok (.iconst 0, 1) := by decide +kernel
theorem dX11_isDays_16 : decode cX11_isDays 16 = .ok (.ireturn, 1) := by decide +kernel
theorem dX11_isBasket_0 : decode cX11_isBasket 0 = .ok (.iload_n 0, 1) := by decide +kernel
theorem dX11_isBasket_1 : decode cX11_isBasket 1 = .ok (.iconst 4, 1) := by decide +kernel
theorem dX11_isBasket_2 : decode cX11_isBasket 2 = .ok (.invokestatic 307, 3) := by decide +kernel
theorem dX11_isBasket_5 : decode cX11_isBasket 5 = .ok (.ireturn, 1) := by decide +kernel
theorem dX11_isPerson_0 : decode cX11_isPerson 0 = .ok (.iload_n 1, 1) := by decide +kernel
theorem dX11_isPerson_1 : decode cX11_isPerson 1 = .ok (.aload_n 0, 1) := by decide +kernel
theorem dX11_isPerson_2 : decode cX11_isPerson 2 = .ok (.getfield 32, 3) := by decide +kernel
theorem dX11_isPerson_5 : decode cX11_isPerson 5 = .ok (.invokevirtual 96, 3) := by decide +kernel
theorem dX11_isPerson_8 : decode cX11_isPerson 8 = .ok (.invokestatic 307, 3) := by decide +kernel
theorem dX11_isPerson_11 : decode cX11_isPerson 11 = .ok (.ireturn, 1) := by decide +kernel
theorem dX11_isBoat_0 : decode cX11_isBoat 0 = .ok (.iload_n 1, 1) := by decide +kernel
theorem dX11_isBoat_1 : decode cX11_isBoat 1 = .ok (.aload_n 0, 1) := by decide +kernel
theorem dX11_isBoat_2 : decode cX11_isBoat 2 = .ok (.getfield 32, 3) := by decide +kernel
theorem dX11_isBoat_5 : decode cX11_isBoat 5 = .ok (.invokevirtual 235, 3) := by decide +kernel
theorem dX11_isBoat_8 : decode cX11_isBoat 8 = .ok (.invokestatic 307, 3) := by decide +kernel
theorem dX11_isBoat_11 : decode cX11_isBoat 11 = .ok (.ireturn, 1) := by decide +kernel
theorem dX11_isSlot_0 : decode cX11_isSlot 0 = .ok (.iload_n 1, 1) := by decide +kernel
theorem dX11_isSlot_1 : decode cX11_isSlot 1 = .ok (.aload_n 0, 1) := by decide +kernel
theorem dX11_isSlot_2 : decode cX11_isSlot 2 = .ok (.getfield 48, 3) := by decide +kernel
theorem dX11_isSlot_5 : decode cX11_isSlot 5 = .ok (.arraylength, 1) := by decide +kernel
theorem dX11_isSlot_6 : decode cX11_isSlot 6 = .ok (.invokestatic 307, 3) := by decide +kernel
theorem dX11_isSlot_9 : decode cX11_isSlot 9 = .ok (.ifCond .eq 19, 3) := by decide +kernel
theorem dX11_isSlot_12 : decode cX11_isSlot 12 = .ok (.iload_n 1, 1) := by decide +kernel
theorem dX11_isSlot_13 : decode cX11_isSlot 13 = .ok (.aload_n 0, 1) := by decide +kernel
theorem dX11_isSlot_14 : decode cX11_isSlot 14 = .ok (.getfield 52, 3) := by decide +kernel
theorem dX11_isSlot_17 : decode cX11_isSlot 17 = .ok (.arraylength, 1) := by decide +kernel
theorem dX11_isSlot_18 : decode cX11_isSlot 18 = .ok (.invokestatic 307, 3) := by decide +kernel
theorem dX11_isSlot_21 : decode cX11_isSlot 21 = .ok (.ifCond .eq 7, 3) := by decide +kernel
theorem dX11_isSlot_24 : decode cX11_isSlot 24 = .ok (.iconst 1, 1) := by decide +kernel
theorem dX11_isSlot_25 : decode cX11_isSlot 25 = .ok (.goto 4, 3) := by decide +kernel
theorem dX11_isSlot_28 : decode cX11_isSlot 28 = .ok (.iconst 0, 1) := by decide +kernel
theorem dX11_isSlot_29 : decode cX11_isSlot 29 = .ok (.ireturn, 1) := by decide +kernel
theorem dX11_refusalToLay_0 : decode cX11_refusalToLay 0 = .ok (.aload_n 0, 1) := by decide +kernel
theorem dX11_refusalToLay_1 : decode cX11_refusalToLay 1 = .ok (.iload_n 1, 1) := by decide +kernel
theorem dX11_refusalToLay_2 : decode cX11_refusalToLay 2 = .ok (.invokevirtual 136, 3) := by decide +kernel
theorem dX11_refusalToLay_5 : decode cX11_refusalToLay 5 = .ok (.ifCond .eq 18, 3) := by decide +kernel
theorem dX11_refusalToLay_8 : decode cX11_refusalToLay 8 = .ok (.aload_n 0, 1) := by decide +kernel
theorem dX11_refusalToLay_9 : decode cX11_refusalToLay 9 = .ok (.iload_n 2, 1) := by decide +kernel
theorem dX11_refusalToLay_10 : decode cX11_refusalToLay 10 = .ok (.invokevirtual 136, 3) := by decide +kernel
theorem dX11_refusalToLay_13 : decode cX11_refusalToLay 13 = .ok (.ifCond .eq 10, 3) := by decide +kernel
theorem dX11_refusalToLay_16 : decode cX11_refusalToLay 16 = .ok (.iload_n 3, 1) := by decide +kernel
theorem dX11_refusalToLay_17 : decode cX11_refusalToLay 17 = .ok (.invokestatic 155, 3) := by decide +kernel
theorem dX11_refusalToLay_20 : decode cX11_refusalToLay 20 = .ok (.ifCond .ne 5, 3) := by decide +kernel
theorem dX11_refusalToLay_23 : decode cX11_refusalToLay 23 = .ok (.iconst (-1), 1) := by decide +kernel
theorem dX11_refusalToLay_24 : decode cX11_refusalToLay 24 = .ok (.ireturn, 1) := by decide +kernel
theorem dX11_refusalToLay_25 : decode cX11_refusalToLay 25 = .ok (.aload_n 0, 1) := by decide +kernel
theorem dX11_refusalToLay_26 : decode cX11_refusalToLay 26 = .ok (.getfield 37, 3) := by decide +kernel
theorem dX11_refusalToLay_29 : decode cX11_refusalToLay 29 = .ok (.getfield 108, 3) := by decide +kernel
theorem dX11_refusalToLay_32 : decode cX11_refusalToLay 32 = .ok (.iload_n 1, 1) := by decide +kernel
theorem dX11_refusalToLay_33 : decode cX11_refusalToLay 33 = .ok (.invokevirtual 139, 3) := by decide +kernel
theorem dX11_refusalToLay_36 : decode cX11_refusalToLay 36 = .ok (.ifCond .eq 6, 3) := by decide +kernel
theorem dX11_refusalToLay_39 : decode cX11_refusalToLay 39 = .ok (.bipush (-3), 2) := by decide +kernel
theorem dX11_refusalToLay_41 : decode cX11_refusalToLay 41 = .ok (.ireturn, 1) := by decide +kernel
theorem dX11_refusalToLay_42 : decode cX11_refusalToLay 42 = .ok (.aload_n 0, 1) := by decide +kernel
theorem dX11_refusalToLay_43 : decode cX11_refusalToLay 43 = .ok (.getfield 37, 3) := by decide +kernel
theorem dX11_refusalToLay_46 : decode cX11_refusalToLay 46 = .ok (.getfield 158, 3) := by decide +kernel
theorem dX11_refusalToLay_49 : decode cX11_refusalToLay 49 = .ok (.iload_n 1, 1) := by decide +kernel
theorem dX11_refusalToLay_50 : decode cX11_refusalToLay 50 = .ok (.iload_n 2, 1) := by decide +kernel
theorem dX11_refusalToLay_51 : decode cX11_refusalToLay 51 = .ok (.invokevirtual 384, 3) := by decide +kernel
theorem dX11_refusalToLay_54 : decode cX11_refusalToLay 54 = .ok (.ifCond .ne 6, 3) := by decide +kernel
theorem dX11_refusalToLay_57 : decode cX11_refusalToLay 57 = .ok (.bipush (-4), 2) := by decide +kernel
theorem dX11_refusalToLay_59 : decode cX11_refusalToLay 59 = .ok (.ireturn, 1) := by decide +kernel
theorem dX11_refusalToLay_60 : decode cX11_refusalToLay 60 = .ok (.aload_n 0, 1) := by decide +kernel
theorem dX11_refusalToLay_61 : decode cX11_refusalToLay 61 = .ok (.getfield 24, 3) := by decide +kernel
theorem dX11_refusalToLay_64 : decode cX11_refusalToLay 64 = .ok (.invokevirtual 148, 3) := by decide +kernel
theorem dX11_refusalToLay_67 : decode cX11_refusalToLay 67 = .ok (.ifCond .eq 14, 3) := by decide +kernel
theorem dX11_refusalToLay_70 : decode cX11_refusalToLay 70 = .ok (.iload_n 3, 1) := by decide +kernel
theorem dX11_refusalToLay_71 : decode cX11_refusalToLay 71 = .ok (.aload_n 0, 1) := by decide +kernel
theorem dX11_refusalToLay_72 : decode cX11_refusalToLay 72 = .ok (.getfield 37, 3) := by decide +kernel
theorem dX11_refusalToLay_75 : decode cX11_refusalToLay 75 = .ok (.getfield 250, 3) := by decide +kernel
theorem dX11_refusalToLay_78 : decode cX11_refusalToLay 78 = .ok (.if_icmp .lt 6, 3) := by decide +kernel
theorem dX11_refusalToLay_81 : decode cX11_refusalToLay 81 = .ok (.bipush (-5), 2) := by decide +kernel
theorem dX11_refusalToLay_83 : decode cX11_refusalToLay 83 = .ok (.ireturn, 1) := by decide +kernel
theorem dX11_refusalToLay_84 : decode cX11_refusalToLay 84 = .ok (.iconst 0, 1) := by decide +kernel
theorem dX11_refusalToLay_85 : decode cX11_refusalToLay 85 = .ok (.ireturn, 1) := by decide +kernel
theorem dX11_copyRow_0 : decode cX11_copyRow 0 = .ok (.aload_n 0, 1) := by decide +kernel
theorem dX11_copyRow_1 : decode cX11_copyRow 1 = .ok (.iconst 0, 1) := by decide +kernel
theorem dX11_copyRow_2 : decode cX11_copyRow 2 = .ok (.aload_n 1, 1) := by decide +kernel
theorem dX11_copyRow_3 : decode cX11_copyRow 3 = .ok (.iconst 0, 1) := by decide +kernel
theorem dX11_copyRow_4 : decode cX11_copyRow 4 = .ok (.aload_n 0, 1) := by decide +kernel
theorem dX11_copyRow_5 : decode cX11_copyRow 5 = .ok (.arraylength, 1) := by decide +kernel
theorem dX11_copyRow_6 : decode cX11_copyRow 6 = .ok (.aload_n 1, 1) := by decide +kernel
theorem dX11_copyRow_7 : decode cX11_copyRow 7 = .ok (.arraylength, 1) := by decide +kernel
theorem dX11_copyRow_8 : decode cX11_copyRow 8 = .ok (.invokestatic 387, 3) := by decide +kernel
theorem dX11_copyRow_11 : decode cX11_copyRow 11 = .ok (.invokestatic 390, 3) := by decide +kernel
theorem dX11_copyRow_14 : decode cX11_copyRow 14 = .ok (.return_, 1) := by decide +kernel
theorem dX11_fillRow_0 : decode cX11_fillRow 0 = .ok (.iconst 0, 1) := by decide +kernel
theorem dX11_fillRow_1 : decode cX11_fillRow 1 = .ok (.istore_n 2, 1) := by decide +kernel
theorem dX11_fillRow_2 : decode cX11_fillRow 2 = .ok (.iload_n 2, 1) := by decide +kernel
theorem dX11_fillRow_3 : decode cX11_fillRow 3 = .ok (.aload_n 0, 1) := by decide +kernel
theorem dX11_fillRow_4 : decode cX11_fillRow 4 = .ok (.arraylength, 1) := by decide +kernel
theorem dX11_fillRow_5 : decode cX11_fillRow 5 = .ok (.if_icmp .ge 13, 3) := by decide +kernel
theorem dX11_fillRow_8 : decode cX11_fillRow 8 = .ok (.aload_n 0, 1) := by decide +kernel
theorem dX11_fillRow_9 : decode cX11_fillRow 9 = .ok (.iload_n 2, 1) := by decide +kernel
theorem dX11_fillRow_10 : decode cX11_fillRow 10 = .ok (.iload_n 1, 1) := by decide +kernel
theorem dX11_fillRow_11 : decode cX11_fillRow 11 = .ok (.iastore, 1) := by decide +kernel
theorem dX11_fillRow_12 : decode cX11_fillRow 12 = .ok (.iinc 2 1, 3) := by decide +kernel
theorem dX11_fillRow_15 : decode cX11_fillRow 15 = .ok (.goto (-13), 3) := by decide +kernel
theorem dX11_fillRow_18 : decode cX11_fillRow 18 = .ok (.return_, 1) := by decide +kernel
theorem dX11_cell_0 : decode cX11_cell 0 = .ok (.iload_n 1, 1) := by decide +kernel
theorem dX11_cell_1 : decode cX11_cell 1 = .ok (.ifCond .lt 15, 3) := by decide +kernel
theorem dX11_cell_4 : decode cX11_cell 4 = .ok (.iload_n 1, 1) := by decide +kernel
theorem dX11_cell_5 : decode cX11_cell 5 = .ok (.aload_n 0, 1) := by decide +kernel
theorem dX11_cell_6 : decode cX11_cell 6 = .ok (.arraylength, 1) := by decide +kernel
theorem dX11_cell_7 : decode cX11_cell 7 = .ok (.if_icmp .ge 9, 3) := by decide +kernel
theorem dX11_cell_10 : decode cX11_cell 10 = .ok (.aload_n 0, 1) := by decide +kernel
theorem dX11_cell_11 : decode cX11_cell 11 = .ok (.iload_n 1, 1) := by decide +kernel
theorem dX11_cell_12 : decode cX11_cell 12 = .ok (.iaload, 1) := by decide +kernel
theorem dX11_cell_13 : decode cX11_cell 13 = .ok (.goto 4, 3) := by decide +kernel
theorem dX11_cell_16 : decode cX11_cell 16 = .ok (.iload_n 2, 1) := by decide +kernel
theorem dX11_cell_17 : decode cX11_cell 17 = .ok (.ireturn, 1) := by decide +kernel
theorem dX11_setCell_0 : decode cX11_setCell 0 = .ok (.iload_n 1, 1) := by decide +kernel
theorem dX11_setCell_1 : decode cX11_setCell 1 = .ok (.ifCond .lt 13, 3) := by decide +kernel
theorem dX11_setCell_4 : decode cX11_setCell 4 = .ok (.iload_n 1, 1) := by decide +kernel
theorem dX11_setCell_5 : decode cX11_setCell 5 = .ok (.aload_n 0, 1) := by decide +kernel
theorem dX11_setCell_6 : decode cX11_setCell 6 = .ok (.arraylength, 1) := by decide +kernel
theorem dX11_setCell_7 : decode cX11_setCell 7 = .ok (.if_icmp .ge 7, 3) := by decide +kernel
theorem dX11_setCell_10 : decode cX11_setCell 10 = .ok (.aload_n 0, 1) := by decide +kernel
theorem dX11_setCell_11 : decode cX11_setCell 11 = .ok (.iload_n 1, 1) := by decide +kernel
theorem dX11_setCell_12 : decode cX11_setCell 12 = .ok (.iload_n 2, 1) := by decide +kernel
theorem dX11_setCell_13 : decode cX11_setCell 13 = .ok (.iastore, 1) := by decide +kernel
theorem dX11_setCell_14 : decode cX11_setCell 14 = .ok (.return_, 1) := by decide +kernel
theorem dX12_init_0 : decode cX12_init 0 = .ok (.aload_n 0, 1) := by decide +kernel
theorem dX12_init_1 : decode cX12_init 1 = .ok (.invokespecial 1, 3) := by decide +kernel
theorem dX12_init_4 : decode cX12_init 4 = .ok (.aload_n 0, 1) := by decide +kernel
theorem dX12_init_5 : decode cX12_init 5 = .ok (.sipush 800, 3) := by decide +kernel
theorem dX12_init_8 : decode cX12_init 8 = .ok (.newarray .byte, 2) := by decide +kernel
theorem dX12_init_10 : decode cX12_init 10 = .ok (.putfield 7, 3) := by decide +kernel
theorem dX12_init_13 : decode cX12_init 13 = .ok (.aload_n 0, 1) := by decide +kernel
theorem dX12_init_14 : decode cX12_init 14 = .ok (.bipush (-2), 2) := by decide +kernel
theorem dX12_init_16 : decode cX12_init 16 = .ok (.putfield 13, 3) := by decide +kernel
theorem dX12_init_19 : decode cX12_init 19 = .ok (.aload_n 0, 1) := by decide +kernel
theorem dX12_init_20 : decode cX12_init 20 = .ok (.bipush 10, 2) := by decide +kernel
theorem dX12_init_22 : decode cX12_init 22 = .ok (.newarray .int, 2) := by decide +kernel
theorem dX12_init_24 : decode cX12_init 24 = .ok (.putfield 17, 3) := by decide +kernel
theorem dX12_init_27 : decode cX12_init 27 = .ok (.aload_n 0, 1) := by decide +kernel
theorem dX12_init_28 : decode cX12_init 28 = .ok (.bipush 20, 2) := by decide +kernel
theorem dX12_init_30 : decode cX12_init 30 = .ok (.newarray .int, 2) := by decide +kernel
theorem dX12_init_32 : decode cX12_init 32 = .ok (.putfield 21, 3) := by decide +kernel
theorem dX12_init_35 : decode cX12_init 35 = .ok (.aload_n 0, 1) := by decide +kernel
theorem dX12_init_36 : decode cX12_init 36 = .ok (.bipush 20, 2) := by decide +kernel
theorem dX12_init_38 : decode cX12_init 38 = .ok (.newarray .int, 2) := by decide +kernel
theorem dX12_init_40 : decode cX12_init 40 = .ok (.putfield 24, 3) := by decide +kernel
theorem dX12_init_43 : decode cX12_init 43 = .ok (.aload_n 0, 1) := by decide +kernel
theorem dX12_init_44 : decode cX12_init 44 = .ok (.bipush 6, 2) := by decide +kernel
theorem dX12_init_46 : decode cX12_init 46 = .ok (.newarray .int, 2) := by decide +kernel
theorem dX12_init_48 : decode cX12_init 48 = .ok (.putfield 27, 3) := by decide +kernel
theorem dX12_init_51 : decode cX12_init 51 = .ok (.aload_n 0, 1) := by decide +kernel
theorem dX12_init_52 : decode cX12_init 52 = .ok (.sipush 399, 3) := by decide +kernel
theorem dX12_init_55 : decode cX12_init 55 = .ok (.newarray .int, 2) := by decide +kernel
theorem dX12_init_57 : decode cX12_init 57 = .ok (.putfield 30, 3) := by decide +kernel
theorem dX12_init_60 : decode cX12_init 60 = .ok (.aload_n 0, 1) := by decide +kernel
theorem dX12_init_61 : decode cX12_init 61 = .ok (.sipush 3192, 3) := by decide +kernel
theorem dX12_init_64 : decode cX12_init 64 = .ok (.newarray .int, 2) := by decide +kernel
theorem dX12_init_66 : decode cX12_init 66 = .ok (.putfield 33, 3) := by decide +kernel
theorem dX12_init_69 : decode cX12_init 69 = .ok (.aload_n 0, 1) := by decide +kernel
theorem dX12_init_70 : decode cX12_init 70 = .ok (.sipush 798, 3) := by decide +kernel
theorem dX12_init_73 : decode cX12_init 73 = .ok (.newarray .int, 2) := by decide +kernel
theorem dX12_init_75 : decode cX12_init 75 = .ok (.putfield 36, 3) := by decide +kernel
theorem dX12_init_78 : decode cX12_init 78 = .ok (.aload_n 0, 1) := by decide +kernel
theorem dX12_init_79 : decode cX12_init 79 = .ok (.iconst 2, 1) := by decide +kernel
theorem dX12_init_80 : decode cX12_init 80 = .ok (.newarray .boolean, 2) := by decide +kernel
theorem dX12_init_82 : decode cX12_init 82 = .ok (.putfield 39, 3) := by decide +kernel
theorem dX12_init_85 : decode cX12_init 85 = .ok (.aload_n 0, 1) := by decide +kernel
theorem dX12_init_86 : decode cX12_init 86 = .ok (.bipush 10, 2) := by decide +kernel
theorem dX12_init_88 : decode cX12_init 88 = .ok (.newarray .int, 2) := by decide +kernel
theorem dX12_init_90 : decode cX12_init 90 = .ok (.putfield 43, 3) := by decide +kernel
theorem dX12_init_93 : decode cX12_init 93 = .ok (.aload_n 0, 1) := by decide +kernel
theorem dX12_init_94 : decode cX12_init 94 = .ok (.bipush 20, 2) := by decide +kernel
theorem dX12_init_96 : decode cX12_init 96 = .ok (.newarray .int, 2) := by decide +kernel
theorem dX12_init_98 : decode cX12_init 98 = .ok (.putfield 46, 3) := by decide +kernel
theorem dX12_init_101 : decode cX12_init 101 = .ok (.aload_n 0, 1) := by decide +kernel
theorem dX12_init_102 : decode cX12_init 102 = .ok (.bipush 20, 2) := by decide +kernel
theorem dX12_init_104 : decode cX12_init 104 = .ok (.newarray .int, 2) := by decide +kernel
theorem dX12_init_106 : decode cX12_init 106 = .ok (.putfield 49, 3) := by decide +kernel
theorem dX12_init_109 : decode cX12_init 109 = .ok (.aload_n 0, 1) := by decide +kernel
theorem dX12_init_110 : decode cX12_init 110 = .ok (.bipush 6, 2) := by decide +kernel
theorem dX12_init_112 : decode cX12_init 112 = .ok (.newarray .int, 2) := by decide +kernel
theorem dX12_init_114 : decode cX12_init 114 = .ok (.putfield 52, 3) := by decide +kernel
theorem dX12_init_117 : decode cX12_init 117 = .ok (.aload_n 0, 1) := by decide +kernel
theorem dX12_init_118 : decode cX12_init 118 = .ok (.iconst 2, 1) := by decide +kernel
theorem dX12_init_119 : decode cX12_init 119 = .ok (.putfield 55, 3) := by decide +kernel
theorem dX12_init_122 : decode cX12_init 122 = .ok (.aload_n 0, 1) := by decide +kernel
theorem dX12_init_123 : decode cX12_init 123 = .ok (.getfield 17, 3) := by decide +kernel
theorem dX12_init_126 : decode cX12_init 126 = .ok (.iconst 0, 1) := by decide +kernel
theorem dX12_init_127 : decode cX12_init 127 = .ok (.bipush 90, 2) := by decide +kernel
theorem dX12_init_129 : decode cX12_init 129 = .ok (.iastore, 1) := by decide +kernel
theorem dX12_init_130 : decode cX12_init 130 = .ok (.iconst 0, 1) := by decide +kernel
theorem dX12_init_131 : decode cX12_init 131 = .ok (.istore_n 1, 1) := by decide +kernel
theorem dX12_init_132 : decode cX12_init 132 = .ok (.iload_n 1, 1) := by decide +kernel
theorem dX12_init_133 : decode cX12_init 133 = .ok (.iconst 4, 1) := by decide +kernel
theorem dX12_init_134 : decode cX12_init 134 = .ok (.if_icmp .ge 19, 3) := by decide +kernel
theorem dX12_init_137 : decode cX12_init 137 = .ok (.aload_n 0, 1) := by decide +kernel
theorem dX12_init_138 : decode cX12_init 138 = .ok (.getfield 17, 3) := by decide +kernel
theorem dX12_init_141 : decode cX12_init 141 = .ok (.iconst 1, 1) := by decide +kernel
theorem dX12_init_142 : decode cX12_init 142 = .ok (.iload_n 1, 1) := by decide +kernel
theorem dX12_init_143 : decode cX12_init 143 = .ok (.iadd, 1) := by decide +kernel
theorem dX12_init_144 : decode cX12_init 144 = .ok (.bipush 50, 2) := by decide +kernel
theorem dX12_init_146 : decode cX12_init 146 = .ok (.iastore, 1) := by decide +kernel
theorem dX12_init_147 : decode cX12_init 147 = .ok (.iinc 1 1, 3) := by decide +kernel
theorem dX12_init_150 : decode cX12_init 150 = .ok (.goto (-18), 3) := by decide +kernel
theorem dX12_init_153 : decode cX12_init 153 = .ok (.aload_n 0, 1) := by decide +kernel
theorem dX12_init_154 : decode cX12_init 154 = .ok (.getfield 17, 3) := by decide +kernel
theorem dX12_init_157 : decode cX12_init 157 = .ok (.iconst 5, 1) := by decide +kernel
theorem dX12_init_158 : decode cX12_init 158 = .ok (.iconst 1, 1) := by decide +kernel
theorem dX12_init_159 : decode cX12_init 159 = .ok (.iastore, 1) := by decide +kernel
theorem dX12_init_160 : decode cX12_init 160 = .ok (.aload_n 0, 1) := by decide +kernel
theorem dX12_init_161 : decode cX12_init 161 = .ok (.getfield 17, 3) := by decide +kernel
theorem dX12_init_164 : decode cX12_init 164 = .ok (.bipush 6, 2) := by decide +kernel
theorem dX12_init_166 : decode cX12_init 166 = .ok (.iconst 1, 1) := by decide +kernel
theorem dX12_init_167 : decode cX12_init 167 = .ok (.iastore, 1) := by decide +kernel
theorem dX12_init_168 : decode cX12_init 168 = .ok (.aload_n 0, 1) := by decide +kernel
theorem dX12_init_169 : decode cX12_init 169 = .ok (.getfield 17, 3) := by decide +kernel
theorem dX12_init_172 : decode cX12_init 172 = .ok (.bipush 7, 2) := by decide +kernel
theorem dX12_init_174 : decode cX12_init 174 = .ok (.iconst 1, 1) := by decide +kernel
theorem dX12_init_175 : decode cX12_init 175 = .ok (.iastore, 1) := by decide +kernel
theorem dX12_init_176 : decode cX12_init 176 = .ok (.aload_n 0, 1) := by decide +kernel
theorem dX12_init_177 : decode cX12_init 177 = .ok (.getfield 17, 3) := by decide +kernel
theorem dX12_init_180 : decode cX12_init 180 = .ok (.bipush 8, 2) := by decide +kernel
theorem dX12_init_182 : decode cX12_init 182 = .ok (.iconst 3, 1) := by decide +kernel
theorem dX12_init_183 : decode cX12_init 183 = .ok (.iastore, 1) := by decide +kernel
theorem dX12_init_184 : decode cX12_init 184 = .ok (.aload_n 0, 1) := by decide +kernel
theorem dX12_init_185 : decode cX12_init 185 = .ok (.getfield 17, 3) := by decide +kernel
theorem dX12_init_188 : decode cX12_init 188 = .ok (.bipush 9, 2) := by decide +kernel
theorem dX12_init_190 : decode cX12_init 190 = .ok (.iconst 1, 1) := by decide +kernel
theorem dX12_init_191 : decode cX12_init 191 = .ok (.iastore, 1) := by decide +kernel
theorem dX12_init_192 : decode cX12_init 192 = .ok (.iconst 0, 1) := by decide +kernel
theorem dX12_init_193 : decode cX12_init 193 = .ok (.istore_n 1, 1) := by decide +kernel
theorem dX12_init_194 : decode cX12_init 194 = .ok (.iload_n 1, 1) := by decide +kernel
theorem dX12_init_195 : decode cX12_init 195 = .ok (.iconst 2, 1) := by decide +kernel
theorem dX12_init_196 : decode cX12_init 196 = .ok (.if_icmp .ge 29, 3) := by decide +kernel
theorem dX12_init_199 : decode cX12_init 199 = .ok (.aload_n 0, 1) := by decide +kernel
theorem dX12_init_200 : decode cX12_init 200 = .ok (.getfield 21, 3) := by decide +kernel
theorem dX12_init_203 : decode cX12_init 203 = .ok (.iload_n 1, 1) := by decide +kernel
theorem dX12_init_204 : decode cX12_init 204 = .ok (.iload_n 1, 1) := by decide +kernel
theorem dX12_init_205 : decode cX12_init 205 = .ok (.iconst 1, 1) := by decide +kernel
theorem dX12_init_206 : decode cX12_init 206 = .ok (.iadd, 1) := by decide +kernel
theorem dX12_init_207 : decode cX12_init 207 = .ok (.bipush 25, 2) := by decide +kernel
theorem dX12_init_209 : decode cX12_init 209 = .ok (.ishl, 1) := by decide +kernel
theorem dX12_init_210 : decode cX12_init 210 = .ok (.iastore, 1) := by decide +kernel
theorem dX12_init_211 : decode cX12_init 211 = .ok (.aload_n 0, 1) := by decide +kernel
theorem dX12_init_212 : decode cX12_init 212 = .ok (.getfield 24, 3) := by decide +kernel
theorem dX12_init_215 : decode cX12_init 215 = .ok (.iload_n 1, 1) := by decide +kernel
theorem dX12_init_216 : decode cX12_init 216 = .ok (.bipush (-2), 2) := by decide +kernel
theorem dX12_init_218 : decode cX12_init 218 = .ok (.iastore, 1) := by decide +kernel
theorem dX12_init_219 : decode cX12_init 219 = .ok (.iinc 1 1, 3) := by decide +kernel
theorem dX12_init_222 : decode cX12_init 222 = .ok (.goto (-28), 3) := by decide +kernel
theorem dX12_init_225 : decode cX12_init 225 = .ok (.aload_n 0, 1) := by decide +kernel
theorem dX12_init_226 : decode cX12_init 226 = .ok (.invokevirtual 58, 3) := by decide +kernel
theorem dX12_init_229 : decode cX12_init 229 = .ok (.return_, 1) := by decide +kernel
theorem dX12_in_0 : decode cX12_in 0 = .ok (.lload_n 0, 1) := by decide +kernel
theorem dX12_in_1 : decode cX12_in 1 = .ok (.lload_n 2, 1) := by decide +kernel
theorem dX12_in_2 : decode cX12_in 2 = .ok (.lcmp, 1) := by decide +kernel
theorem dX12_in_3 : decode cX12_in 3 = .ok (.ifCond .lt 14, 3) := by decide +kernel
theorem dX12_in_6 : decode cX12_in 6 = .ok (.lload_n 0, 1) := by decide +kernel
theorem dX12_in_7 : decode cX12_in 7 = .ok (.lload 4, 2) := by decide +kernel
theorem dX12_in_9 : decode cX12_in 9 = .ok (.lcmp, 1) := by decide +kernel
theorem dX12_in_10 : decode cX12_in 10 = .ok (.ifCond .gt 7, 3) := by decide +kernel
theorem dX12_in_13 : decode cX12_in 13 = .ok (.iconst 1, 1) := by decide +kernel
theorem dX12_in_14 : decode cX12_in 14 = .ok (.goto 4, 3) := by decide +kernel
theorem dX12_in_17 : decode cX12_in 17 = .ok (.iconst 0, 1) := by decide +kernel
theorem dX12_in_18 : decode cX12_in 18 = .ok (.ireturn, 1) := by decide +kernel
theorem dX12_clear_0 : decode cX12_clear 0 = .ok (.iconst 0, 1) := by decide +kernel
theorem dX12_clear_1 : decode cX12_clear 1 = .ok (.istore_n 1, 1) := by decide +kernel
theorem dX12_clear_2 : decode cX12_clear 2 = .ok (.iload_n 1, 1) := by decide +kernel
theorem dX12_clear_3 : decode cX12_clear 3 = .ok (.sipush 399, 3) := by decide +kernel
theorem dX12_clear_6 : decode cX12_clear 6 = .ok (.if_icmp .ge 16, 3) := by decide +kernel
theorem dX12_clear_9 : decode cX12_clear 9 = .ok (.aload_n 0, 1) := by decide +kernel
theorem dX12_clear_10 : decode cX12_clear 10 = .ok (.getfield 30, 3) := by decide +kernel
theorem dX12_clear_13 : decode cX12_clear 13 = .ok (.iload_n 1, 1) := by decide +kernel
theorem dX12_clear_14 : decode cX12_clear 14 = .ok (.iconst 0, 1) := by decide +kernel
theorem dX12_clear_15 : decode cX12_clear 15 = .ok (.iastore, 1) := by decide +kernel
theorem dX12_clear_16 : decode cX12_clear 16 = .ok (.iinc 1 1, 3) := by decide +kernel
theorem dX12_clear_19 : decode cX12_clear 19 = .ok (.goto (-17), 3) := by decide +kernel
theorem dX12_clear_22 : decode cX12_clear 22 = .ok (.iconst 0, 1) := by decide +kernel
theorem dX12_clear_23 : decode cX12_clear 23 = .ok (.istore_n 1, 1) := by decide +kernel
theorem dX12_clear_24 : decode cX12_clear 24 = .ok (.iload_n 1, 1) := by decide +kernel
theorem dX12_clear_25 : decode cX12_clear 25 = .ok (.aload_n 0, 1) := by decide +kernel
theorem dX12_clear_26 : decode cX12_clear 26 = .ok (.getfield 55, 3) := by decide +kernel
theorem dX12_clear_29 : decode cX12_clear 29 = .ok (.if_icmp .ge 34, 3) := by decide +kernel
theorem dX12_clear_32 : decode cX12_clear 32 = .ok (.aload_n 0, 1) := by decide +kernel
theorem dX12_clear_33 : decode cX12_clear 33 = .ok (.iload_n 1, 1) := by decide +kernel
theorem dX12_clear_34 : decode cX12_clear 34 = .ok (.iconst 0, 1) := by decide +kernel
theorem dX12_clear_35 : decode cX12_clear 35 = .ok (.aload_n 0, 1) := by decide +kernel
theorem dX12_clear_36 : decode cX12_clear 36 = .ok (.getfield 24, 3) := by decide +kernel
theorem dX12_clear_39 : decode cX12_clear 39 = .ok (.iload_n 1, 1) := by decide +kernel
theorem dX12_clear_40 : decode cX12_clear 40 = .ok (.iaload, 1) := by decide +kernel
theorem dX12_clear_41 : decode cX12_clear 41 = .ok (.invokevirtual 61, 3) := by decide +kernel
theorem dX12_clear_44 : decode cX12_clear 44 = .ok (.aload_n 0, 1) := by decide +kernel
theorem dX12_clear_45 : decode cX12_clear 45 = .ok (.iload_n 1, 1) := by decide +kernel
theorem dX12_clear_46 : decode cX12_clear 46 = .ok (.iconst 1, 1) := by decide +kernel
theorem dX12_clear_47 : decode cX12_clear 47 = .ok (.bipush (-2), 2) := by decide +kernel
theorem dX12_clear_49 : decode cX12_clear 49 = .ok (.invokevirtual 61, 3) := by decide +kernel
theorem dX12_clear_52 : decode cX12_clear 52 = .ok (.aload_n 0, 1) := by decide +kernel
theorem dX12_clear_53 : decode cX12_clear 53 = .ok (.iload_n 1, 1) := by decide +kernel
theorem dX12_clear_54 : decode cX12_clear 54 = .ok (.invokevirtual 65, 3) := by decide +kernel
theorem dX12_clear_57 : decode cX12_clear 57 = .ok (.iinc 1 1, 3) := by decide +kernel
theorem dX12_clear_60 : decode cX12_clear 60 = .ok (.goto (-36), 3) := by decide +kernel
theorem dX12_clear_63 : decode cX12_clear 63 = .ok (.aload_n 0, 1) := by decide +kernel
theorem dX12_clear_64 : decode cX12_clear 64 = .ok (.getfield 39, 3) := by decide +kernel
theorem dX12_clear_67 : decode cX12_clear 67 = .ok (.iconst 0, 1) := by decide +kernel
theorem dX12_clear_68 : decode cX12_clear 68 = .ok (.iconst 0, 1) := by decide +kernel
theorem dX12_clear_69 : decode cX12_clear 69 = .ok (.bastore, 1) := by decide +kernel
theorem dX12_clear_70 : decode cX12_clear 70 = .ok (.aload_n 0, 1) := by decide +kernel
theorem dX12_clear_71 : decode cX12_clear 71 = .ok (.getfield 39, 3) := by decide +kernel
theorem dX12_clear_74 : decode cX12_clear 74 = .ok (.iconst 1, 1) := by decide +kernel
theorem dX12_clear_75 : decode cX12_clear 75 = .ok (.iconst 0, 1) := by decide +kernel
theorem dX12_clear_76 : decode cX12_clear 76 = .ok (.bastore, 1) := by decide +kernel
theorem dX12_clear_77 : decode cX12_clear 77 = .ok (.aload_n 0, 1) := by decide +kernel
theorem dX12_clear_78 : decode cX12_clear 78 = .ok (.iconst 0, 1) := by decide +kernel
theorem dX12_clear_79 : decode cX12_clear 79 = .ok (.putfield 69, 3) := by decide +kernel
theorem dX12_clear_82 : decode cX12_clear 82 = .ok (.return_, 1) := by decide +kernel
theorem dX12_of_0 : decode cX12_of 0 = .ok (.aload_n 0, 1) := by decide +kernel
theorem dX12_of_1 : decode cX12_of 1 = .ok (.getfield 30, 3) := by decide +kernel
theorem dX12_of_4 : decode cX12_of 4 = .ok (.bipush 9, 2) := by decide +kernel
theorem dX12_of_6 : decode cX12_of 6 = .ok (.bipush 11, 2) := by decide +kernel
theorem dX12_of_8 : decode cX12_of 8 = .ok (.iload_n 1, 1) := by decide +kernel
theorem dX12_of_9 : decode cX12_of 9 = .ok (.imul, 1) := by decide +kernel
theorem dX12_of_10 : decode cX12_of 10 = .ok (.iadd, 1) := by decide +kernel
theorem dX12_of_11 : decode cX12_of 11 = .ok (.iload_n 2, 1) := by decide +kernel
theorem dX12_of_12 : decode cX12_of 12 = .ok (.iadd, 1) := by decide +kernel
theorem dX12_of_13 : decode cX12_of 13 = .ok (.iaload, 1) := by decide +kernel
theorem dX12_of_14 : decode cX12_of 14 = .ok (.ireturn, 1) := by decide +kernel
theorem dX12_sets_0 : decode cX12_sets 0 = .ok (.aload_n 0, 1) := by decide +kernel
theorem dX12_sets_1 : decode cX12_sets 1 = .ok (.getfield 30, 3) := by decide +kernel
theorem dX12_sets_4 : decode cX12_sets 4 = .ok (.bipush 9, 2) := by decide +kernel
theorem dX12_sets_6 : decode cX12_sets 6 = .ok (.bipush 11, 2) := by decide +kernel
theorem dX12_sets_8 : decode cX12_sets 8 = .ok (.iload_n 1, 1) := by decide +kernel
theorem dX12_sets_9 : decode cX12_sets 9 = .ok (.imul, 1) := by decide +kernel
theorem dX12_sets_10 : decode cX12_sets 10 = .ok (.iadd, 1) := by decide +kernel
theorem dX12_sets_11 : decode cX12_sets 11 = .ok (.iload_n 2, 1) := by decide +kernel
theorem dX12_sets_12 : decode cX12_sets 12 = .ok (.iadd, 1) := by decide +kernel
theorem dX12_sets_13 : decode cX12_sets 13 = .ok (.iload_n 3, 1) := by decide +kernel
theorem dX12_sets_14 : decode cX12_sets 14 = .ok (.iastore, 1) := by decide +kernel
theorem dX12_sets_15 : decode cX12_sets 15 = .ok (.return_, 1) := by decide +kernel
theorem dX12_ofBoat_0 : decode cX12_ofBoat 0 = .ok (.aload_n 0, 1) := by decide +kernel
theorem dX12_ofBoat_1 : decode cX12_ofBoat 1 = .ok (.getfield 30, 3) := by decide +kernel
theorem dX12_ofBoat_4 : decode cX12_ofBoat 4 = .ok (.sipush 229, 3) := by decide +kernel
theorem dX12_ofBoat_7 : decode cX12_ofBoat 7 = .ok (.iconst 3, 1) := by decide +kernel
theorem dX12_ofBoat_8 : decode cX12_ofBoat 8 = .ok (.iload_n 1, 1) := by decide +kernel
theorem dX12_ofBoat_9 : decode cX12_ofBoat 9 = .ok (.imul, 1) := by decide +kernel
theorem dX12_ofBoat_10 : decode cX12_ofBoat 10 = .ok (.iadd, 1) := by decide +kernel
theorem dX12_ofBoat_11 : decode cX12_ofBoat 11 = .ok (.iload_n 2, 1) := by decide +kernel
theorem dX12_ofBoat_12 : decode cX12_ofBoat 12 = .ok (.iadd, 1) := by decide +kernel
theorem dX12_ofBoat_13 : decode cX12_ofBoat 13 = .ok (.iaload, 1) := by decide +kernel
theorem dX12_ofBoat_14 : decode cX12_ofBoat 14 = .ok (.ireturn, 1) := by decide +kernel
theorem dX12_setsBoat_0 : decode cX12_setsBoat 0 = .ok (.aload_n 0, 1) := by decide +kernel
theorem dX12_setsBoat_1 : decode cX12_setsBoat 1 = .ok (.getfield 30, 3) := by decide +kernel
theorem dX12_setsBoat_4 : decode cX12_setsBoat 4 = .ok (.sipush 229, 3) := by decide +kernel
theorem dX12_setsBoat_7 : decode cX12_setsBoat 7 = .ok (.iconst 3, 1) := by decide +kernel
theorem dX12_setsBoat_8 : decode cX12_setsBoat 8 = .ok (.iload_n 1, 1) := by decide +kernel
theorem dX12_setsBoat_9 : decode cX12_setsBoat 9 = .ok (.imul, 1) := by decide +kernel
theorem dX12_setsBoat_10 : decode cX12_setsBoat 10 = .ok (.iadd, 1) := by decide +kernel
theorem dX12_setsBoat_11 : decode cX12_setsBoat 11 = .ok (.iload_n 2, 1) := by decide +kernel
theorem dX12_setsBoat_12 : decode cX12_setsBoat 12 = .ok (.iadd, 1) := by decide +kernel
theorem dX12_setsBoat_13 : decode cX12_setsBoat 13 = .ok (.iload_n 3, 1) := by decide +kernel
theorem dX12_setsBoat_14 : decode cX12_setsBoat 14 = .ok (.iastore, 1) := by decide +kernel
theorem dX12_setsBoat_15 : decode cX12_setsBoat 15 = .ok (.return_, 1) := by decide +kernel
theorem dX12_isPerson_0 : decode cX12_isPerson 0 = .ok (.iload_n 1, 1) := by decide +kernel
theorem dX12_isPerson_1 : decode cX12_isPerson 1 = .ok (.i2l, 1) := by decide +kernel
theorem dX12_isPerson_2 : decode cX12_isPerson 2 = .ok (.lconst 0, 1) := by decide +kernel
theorem dX12_isPerson_3 : decode cX12_isPerson 3 = .ok (.aload_n 0, 1) := by decide +kernel
theorem dX12_isPerson_4 : decode cX12_isPerson 4 = .ok (.getfield 55, 3) := by decide +kernel
theorem dX12_isPerson_7 : decode cX12_isPerson 7 = .ok (.iconst 1, 1) := by decide +kernel
theorem dX12_isPerson_8 : decode cX12_isPerson 8 = .ok (.isub, 1) := by decide +kernel
theorem dX12_isPerson_9 : decode cX12_isPerson 9 = .ok (.i2l, 1) := by decide +kernel
theorem dX12_isPerson_10 : decode cX12_isPerson 10 = .ok (.invokestatic 72, 3) := by decide +kernel
theorem dX12_isPerson_13 : decode cX12_isPerson 13 = .ok (.ireturn, 1) := by decide +kernel
theorem dX12_isBoat_0 : decode cX12_isBoat 0 = .ok (.iload_n 1, 1) := by decide +kernel
theorem dX12_isBoat_1 : decode cX12_isBoat 1 = .ok (.i2l, 1) := by decide +kernel
theorem dX12_isBoat_2 : decode cX12_isBoat 2 = .ok (.lconst 0, 1) := by decide +kernel
theorem dX12_isBoat_3 : decode cX12_isBoat 3 = .ok (.aload_n 0, 1) := by decide +kernel
theorem dX12_isBoat_4 : decode cX12_isBoat 4 = .ok (.getfield 76, 3) := by decide +kernel
theorem dX12_isBoat_7 : decode cX12_isBoat 7 = .ok (.iconst 1, 1) := by decide +kernel
theorem dX12_isBoat_8 : decode cX12_isBoat 8 = .ok (.isub, 1) := by decide +kernel
theorem dX12_isBoat_9 : decode cX12_isBoat 9 = .ok (.i2l, 1) := by decide +kernel
theorem dX12_isBoat_10 : decode cX12_isBoat 10 = .ok (.invokestatic 72, 3) := by decide +kernel
theorem dX12_isBoat_13 : decode cX12_isBoat 13 = .ok (.ireturn, 1) := by decide +kernel
theorem dX12_isBasket_0 : decode cX12_isBasket 0 = .ok (.iload_n 0, 1) := by decide +kernel
theorem dX12_isBasket_1 : decode cX12_isBasket 1 = .ok (.i2l, 1) := by decide +kernel
theorem dX12_isBasket_2 : decode cX12_isBasket 2 = .ok (.lconst 0, 1) := by decide +kernel
theorem dX12_isBasket_3 : decode cX12_isBasket 3 = .ok (.ldc2_w 79, 3) := by decide +kernel
theorem dX12_isBasket_6 : decode cX12_isBasket 6 = .ok (.invokestatic 72, 3) := by decide +kernel
theorem dX12_isBasket_9 : decode cX12_isBasket 9 = .ok (.ireturn, 1) := by decide +kernel
theorem dX12_isAtSea_0 : decode cX12_isAtSea 0 = .ok (.aload_n 0, 1) := by decide +kernel
theorem dX12_isAtSea_1 : decode cX12_isAtSea 1 = .ok (.iload_n 1, 1) := by decide +kernel
theorem dX12_isAtSea_2 : decode cX12_isAtSea 2 = .ok (.iconst 1, 1) := by decide +kernel
theorem dX12_isAtSea_3 : decode cX12_isAtSea 3 = .ok (.invokevirtual 81, 3) := by decide +kernel
theorem dX12_isAtSea_6 : decode cX12_isAtSea 6 = .ok (.ifCond .lt 7, 3) := by decide +kernel
theorem dX12_isAtSea_9 : decode cX12_isAtSea 9 = .ok (.iconst 1, 1) := by decide +kernel
theorem dX12_isAtSea_10 : decode cX12_isAtSea 10 = .ok (.goto 4, 3) := by decide +kernel
theorem dX12_isAtSea_13 : decode cX12_isAtSea 13 = .ok (.iconst 0, 1) := by decide +kernel
theorem dX12_isAtSea_14 : decode cX12_isAtSea 14 = .ok (.ireturn, 1) := by decide +kernel
theorem dX12_isOut_0 : decode cX12_isOut 0 = .ok (.aload_n 0, 1) := by decide +kernel
theorem dX12_isOut_1 : decode cX12_isOut 1 = .ok (.iload_n 1, 1) := by decide +kernel
theorem dX12_isOut_2 : decode cX12_isOut 2 = .ok (.iconst 0, 1) := by decide +kernel
theorem dX12_isOut_3 : decode cX12_isOut 3 = .ok (.invokevirtual 85, 3) := by decide +kernel
theorem dX12_isOut_6 : decode cX12_isOut 6 = .ok (.iconst 1, 1) := by decide +kernel
theorem dX12_isOut_7 : decode cX12_isOut 7 = .ok (.if_icmp .ne 7, 3) := by decide +kernel
theorem dX12_isOut_10 : decode cX12_isOut 10 = .ok (.iconst 1, 1) := by decide +kernel
theorem dX12_isOut_11 : decode cX12_isOut 11 = .ok (.goto 4, 3) := by decide +kernel
theorem dX12_isOut_14 : decode cX12_isOut 14 = .ok (.iconst 0, 1) := by decide +kernel
theorem dX12_isOut_15 : decode cX12_isOut 15 = .ok (.ireturn, 1) := by decide +kernel
theorem dX12_isOpen_0 : decode cX12_isOpen 0 = .ok (.aload_n 0, 1) := by decide +kernel
theorem dX12_isOpen_1 : decode cX12_isOpen 1 = .ok (.getfield 30, 3) := by decide +kernel
theorem dX12_isOpen_4 : decode cX12_isOpen 4 = .ok (.iconst 2, 1) := by decide +kernel
theorem dX12_isOpen_5 : decode cX12_isOpen 5 = .ok (.iaload, 1) := by decide +kernel
theorem dX12_isOpen_6 : decode cX12_isOpen 6 = .ok (.iconst 1, 1) := by decide +kernel
theorem dX12_isOpen_7 : decode cX12_isOpen 7 = .ok (.if_icmp .ne 7, 3) := by decide +kernel
theorem dX12_isOpen_10 : decode cX12_isOpen 10 = .ok (.iconst 1, 1) := by decide +kernel
theorem dX12_isOpen_11 : decode cX12_isOpen 11 = .ok (.goto 4, 3) := by decide +kernel
theorem dX12_isOpen_14 : decode cX12_isOpen 14 = .ok (.iconst 0, 1) := by decide +kernel
theorem dX12_isOpen_15 : decode cX12_isOpen 15 = .ok (.ireturn, 1) := by decide +kernel
theorem dX12_tells_0 : decode cX12_tells 0 = .ok (.aload_n 0, 1) := by decide +kernel
theorem dX12_tells_1 : decode cX12_tells 1 = .ok (.getfield 30, 3) := by decide +kernel
theorem dX12_tells_4 : decode cX12_tells 4 = .ok (.bipush 8, 2) := by decide +kernel
theorem dX12_tells_6 : decode cX12_tells 6 = .ok (.iaload, 1) := by decide +kernel
theorem dX12_tells_7 : decode cX12_tells 7 = .ok (.bipush 30, 2) := by decide +kernel
theorem dX12_tells_9 : decode cX12_tells 9 = .ok (.if_icmp .ne 54, 3) := by decide +kernel
theorem dX12_tells_12 : decode cX12_tells 12 = .ok (.iconst 4, 1) := by decide +kernel
theorem dX12_tells_13 : decode cX12_tells 13 = .ok (.istore 4, 2) := by decide +kernel
theorem dX12_tells_15 : decode cX12_tells 15 = .ok (.iload 4, 2) := by decide +kernel
theorem dX12_tells_17 : decode cX12_tells 17 = .ok (.bipush 120, 2) := by decide +kernel
theorem dX12_tells_19 : decode cX12_tells 19 = .ok (.if_icmp .ge 33, 3) := by decide +kernel
theorem dX12_tells_22 : decode cX12_tells 22 = .ok (.aload_n 0, 1) := by decide +kernel
theorem dX12_tells_23 : decode cX12_tells 23 = .ok (.getfield 30, 3) := by decide +kernel
theorem dX12_tells_26 : decode cX12_tells 26 = .ok (.sipush 279, 3) := by decide +kernel
theorem dX12_tells_29 : decode cX12_tells 29 = .ok (.iload 4, 2) := by decide +kernel
theorem dX12_tells_31 : decode cX12_tells 31 = .ok (.iadd, 1) := by decide +kernel
theorem dX12_tells_32 : decode cX12_tells 32 = .ok (.iconst 4, 1) := by decide +kernel
theorem dX12_tells_33 : decode cX12_tells 33 = .ok (.isub, 1) := by decide +kernel
theorem dX12_tells_34 : decode cX12_tells 34 = .ok (.aload_n 0, 1) := by decide +kernel
theorem dX12_tells_35 : decode cX12_tells 35 = .ok (.getfield 30, 3) := by decide +kernel
theorem dX12_tells_38 : decode cX12_tells 38 = .ok (.sipush 279, 3) := by decide +kernel
theorem dX12_tells_41 : decode cX12_tells 41 = .ok (.iload 4, 2) := by decide +kernel
theorem dX12_tells_43 : decode cX12_tells 43 = .ok (.iadd, 1) := by decide +kernel
theorem dX12_tells_44 : decode cX12_tells 44 = .ok (.iaload, 1) := by decide +kernel
theorem dX12_tells_45 : decode cX12_tells 45 = .ok (.iastore, 1) := by decide +kernel
theorem dX12_tells_46 : decode cX12_tells 46 = .ok (.iinc 4 1, 3) := by decide +kernel
theorem dX12_tells_49 : decode cX12_tells 49 = .ok (.goto (-34), 3) := by decide +kernel
theorem dX12_tells_52 : decode cX12_tells 52 = .ok (.aload_n 0, 1) := by decide +kernel
theorem dX12_tells_53 : decode cX12_tells 53 = .ok (.getfield 30, 3) := by decide +kernel
theorem dX12_tells_56 : decode cX12_tells 56 = .ok (.bipush 8, 2) := by decide +kernel
theorem dX12_tells_58 : decode cX12_tells 58 = .ok (.dup2, 1) := by decide +kernel
theorem dX12_tells_59 : decode cX12_tells 59 = .ok (.iaload, 1) := by decide +kernel
theorem dX12_tells_60 : decode cX12_tells 60 = .ok (.iconst 1, 1) := by decide +kernel
theorem dX12_tells_61 : decode cX12_tells 61 = .ok (.isub, 1) := by decide +kernel
theorem dX12_tells_62 : decode cX12_tells 62 = .ok (.iastore, 1) := by decide +kernel
theorem dX12_tells_63 : decode cX12_tells 63 = .ok (.sipush 279, 3) := by decide +kernel
theorem dX12_tells_66 : decode cX12_tells 66 = .ok (.iconst 4, 1) := by decide +kernel
theorem dX12_tells_67 : decode cX12_tells 67 = .ok (.aload_n 0, 1) := by decide +kernel
theorem dX12_tells_68 : decode cX12_tells 68 = .ok (.getfield 30, 3) := by decide +kernel
theorem dX12_tells_71 : decode cX12_tells 71 = .ok (.bipush 8, 2) := by decide +kernel
theorem dX12_tells_73 : decode cX12_tells 73 = .ok (.iaload, 1) := by decide +kernel
theorem dX12_tells_74 : decode cX12_tells 74 = .ok (.imul, 1) := by decide +kernel
theorem dX12_tells_75 : decode cX12_tells 75 = .ok (.iadd, 1) := by decide +kernel
theorem dX12_tells_76 : decode cX12_tells 76 = .ok (.istore 4, 2) := by decide +kernel
theorem dX12_tells_78 : decode cX12_tells 78 = .ok (.aload_n 0, 1) := by decide +kernel
theorem dX12_tells_79 : decode cX12_tells 79 = .ok (.getfield 30, 3) := by decide +kernel
theorem dX12_tells_82 : decode cX12_tells 82 = .ok (.iload 4, 2) := by decide +kernel
theorem dX12_tells_84 : decode cX12_tells 84 = .ok (.aload_n 0, 1) := by decide +kernel
theorem dX12_tells_85 : decode cX12_tells 85 = .ok (.getfield 30, 3) := by decide +kernel
theorem dX12_tells_88 : decode cX12_tells 88 = .ok (.iconst 0, 1) := by decide +kernel
theorem dX12_tells_89 : decode cX12_tells 89 = .ok (.iaload, 1) := by decide +kernel
theorem dX12_tells_90 : decode cX12_tells 90 = .ok (.iastore, 1) := by decide +kernel
theorem dX12_tells_91 : decode cX12_tells 91 = .ok (.aload_n 0, 1) := by decide +kernel
theorem dX12_tells_92 : decode cX12_tells 92 = .ok (.getfield 30, 3) := by decide +kernel
theorem dX12_tells_95 : decode cX12_tells 95 = .ok (.iload 4, 2) := by decide +kernel
theorem dX12_tells_97 : decode cX12_tells 97 = .ok (.iconst 1, 1) := by decide +kernel
theorem dX12_tells_98 : decode cX12_tells 98 = .ok (.iadd, 1) := by decide +kernel
theorem dX12_tells_99 : decode cX12_tells 99 = .ok (.iload_n 1, 1) := by decide +kernel
theorem dX12_tells_100 : decode cX12_tells 100 = .ok (.iastore, 1) := by decide +kernel
theorem dX12_tells_101 : decode cX12_tells 101 = .ok (.aload_n 0, 1) := by decide +kernel
theorem dX12_tells_102 : decode cX12_tells 102 = .ok (.getfield 30, 3) := by decide +kernel
theorem dX12_tells_105 : decode cX12_tells 105 = .ok (.iload 4, 2) := by decide +kernel
theorem dX12_tells_107 : decode cX12_tells 107 = .ok (.iconst 2, 1) := by decide +kernel
theorem dX12_tells_108 : decode cX12_tells 108 = .ok (.iadd, 1) := by decide +kernel
theorem dX12_tells_109 : decode cX12_tells 109 = .ok (.iload_n 2, 1) := by decide +kernel
theorem dX12_tells_110 : decode cX12_tells 110 = .ok (.iastore, 1) := by decide +kernel
theorem dX12_tells_111 : decode cX12_tells 111 = .ok (.aload_n 0, 1) := by decide +kernel
theorem dX12_tells_112 : decode cX12_tells 112 = .ok (.getfield 30, 3) := by decide +kernel
theorem dX12_tells_115 : decode cX12_tells 115 = .ok (.iload 4, 2) := by decide +kernel
theorem dX12_tells_117 : decode cX12_tells 117 = .ok (.iconst 3, 1) := by decide +kernel
theorem dX12_tells_118 : decode cX12_tells 118 = .ok (.iadd, 1) := by decide +kernel
theorem dX12_tells_119 : decode cX12_tells 119 = .ok (.iload_n 3, 1) := by decide +kernel
theorem dX12_tells_120 : decode cX12_tells 120 = .ok (.iastore, 1) := by decide +kernel
theorem dX12_tells_121 : decode cX12_tells 121 = .ok (.aload_n 0, 1) := by decide +kernel
theorem dX12_tells_122 : decode cX12_tells 122 = .ok (.getfield 30, 3) := by decide +kernel
theorem dX12_tells_125 : decode cX12_tells 125 = .ok (.bipush 8, 2) := by decide +kernel
theorem dX12_tells_127 : decode cX12_tells 127 = .ok (.dup2, 1) := by decide +kernel
theorem dX12_tells_128 : decode cX12_tells 128 = .ok (.iaload, 1) := by decide +kernel
theorem dX12_tells_129 : decode cX12_tells 129 = .ok (.iconst 1, 1) := by decide +kernel
theorem dX12_tells_130 : decode cX12_tells 130 = .ok (.iadd, 1) := by decide +kernel
theorem dX12_tells_131 : decode cX12_tells 131 = .ok (.iastore, 1) := by decide +kernel
theorem dX12_tells_132 : decode cX12_tells 132 = .ok (.return_, 1) := by decide +kernel
theorem dX12_isLaidNoMore_0 : decode cX12_isLaidNoMore 0 = .ok (.aload_n 0, 1) := by decide +kernel
theorem dX12_isLaidNoMore_1 : decode cX12_isLaidNoMore 1 = .ok (.iload_n 1, 1) := by decide +kernel
theorem dX12_isLaidNoMore_2 : decode cX12_isLaidNoMore 2 = .ok (.bipush 8, 2) := by decide +kernel
theorem dX12_isLaidNoMore_4 : decode cX12_isLaidNoMore 4 = .ok (.bipush (-2), 2) := by decide +kernel
theorem dX12_isLaidNoMore_6 : decode cX12_isLaidNoMore 6 = .ok (.invokevirtual 61, 3) := by decide +kernel
theorem dX12_isLaidNoMore_9 : decode cX12_isLaidNoMore 9 = .ok (.aload_n 0, 1) := by decide +kernel
theorem dX12_isLaidNoMore_10 : decode cX12_isLaidNoMore 10 = .ok (.iload_n 1, 1) := by decide +kernel
theorem dX12_isLaidNoMore_11 : decode cX12_isLaidNoMore 11 = .ok (.bipush 9, 2) := by decide +kernel
theorem dX12_isLaidNoMore_13 : decode cX12_isLaidNoMore 13 = .ok (.bipush (-2), 2) := by decide +kernel
theorem dX12_isLaidNoMore_15 : decode cX12_isLaidNoMore 15 = .ok (.invokevirtual 61, 3) := by decide +kernel
theorem dX12_isLaidNoMore_18 : decode cX12_isLaidNoMore 18 = .ok (.aload_n 0, 1) := by decide +kernel
theorem dX12_isLaidNoMore_19 : decode cX12_isLaidNoMore 19 = .ok (.iload_n 1, 1) := by decide +kernel
theorem dX12_isLaidNoMore_20 : decode cX12_isLaidNoMore 20 = .ok (.bipush 10, 2) := by decide +kernel
theorem dX12_isLaidNoMore_22 : decode cX12_isLaidNoMore 22 = .ok (.iconst 0, 1) := by decide +kernel
theorem dX12_isLaidNoMore_23 : decode cX12_isLaidNoMore 23 = .ok (.invokevirtual 61, 3) := by decide +kernel
theorem dX12_isLaidNoMore_26 : decode cX12_isLaidNoMore 26 = .ok (.return_, 1) := by decide +kernel
theorem dX12_atHand_0 : decode cX12_atHand 0 = .ok (.aload_n 0, 1) := by decide +kernel
theorem dX12_atHand_1 : decode cX12_atHand 1 = .ok (.iload_n 1, 1) := by decide +kernel
theorem dX12_atHand_2 : decode cX12_atHand 2 = .ok (.iconst 5, 1) := by decide +kernel
theorem dX12_atHand_3 : decode cX12_atHand 3 = .ok (.iconst 0, 1) := by decide +kernel
theorem dX12_atHand_4 : decode cX12_atHand 4 = .ok (.invokevirtual 61, 3) := by decide +kernel
theorem dX12_atHand_7 : decode cX12_atHand 7 = .ok (.aload_n 0, 1) := by decide +kernel
theorem dX12_atHand_8 : decode cX12_atHand 8 = .ok (.iload_n 1, 1) := by decide +kernel
theorem dX12_atHand_9 : decode cX12_atHand 9 = .ok (.bipush 6, 2) := by decide +kernel
theorem dX12_atHand_11 : decode cX12_atHand 11 = .ok (.bipush (-2), 2) := by decide +kernel
theorem dX12_atHand_13 : decode cX12_atHand 13 = .ok (.invokevirtual 61, 3) := by decide +kernel
theorem dX12_atHand_16 : decode cX12_atHand 16 = .ok (.aload_n 0, 1) := by decide +kernel
theorem dX12_atHand_17 : decode cX12_atHand 17 = .ok (.iload_n 1, 1) := by decide +kernel
theorem dX12_atHand_18 : decode cX12_atHand 18 = .ok (.bipush 7, 2) := by decide +kernel
theorem dX12_atHand_20 : decode cX12_atHand 20 = .ok (.bipush (-2), 2) := by decide +kernel
theorem dX12_atHand_22 : decode cX12_atHand 22 = .ok (.invokevirtual 61, 3) := by decide +kernel
theorem dX12_atHand_25 : decode cX12_atHand 25 = .ok (.aload_n 0, 1) := by decide +kernel
theorem dX12_atHand_26 : decode cX12_atHand 26 = .ok (.iload_n 1, 1) := by decide +kernel
theorem dX12_atHand_27 : decode cX12_atHand 27 = .ok (.invokevirtual 88, 3) := by decide +kernel
theorem dX12_atHand_30 : decode cX12_atHand 30 = .ok (.return_, 1) := by decide +kernel
theorem dX12_isLaid_0 : decode cX12_isLaid 0 = .ok (.aload_n 0, 1) := by decide +kernel
theorem dX12_isLaid_1 : decode cX12_isLaid 1 = .ok (.iload_n 1, 1) := by decide +kernel
theorem dX12_isLaid_2 : decode cX12_isLaid 2 = .ok (.iconst 5, 1) := by decide +kernel
theorem dX12_isLaid_3 : decode cX12_isLaid 3 = .ok (.invokevirtual 81, 3) := by decide +kernel
theorem dX12_isLaid_6 : decode cX12_isLaid 6 = .ok (.iconst 2, 1) := by decide +kernel
theorem dX12_isLaid_7 : decode cX12_isLaid 7 = .ok (.if_icmp .lt 7, 3) := by decide +kernel
theorem dX12_isLaid_10 : decode cX12_isLaid 10 = .ok (.iconst 1, 1) := by decide +kernel
theorem dX12_isLaid_11 : decode cX12_isLaid 11 = .ok (.goto 4, 3) := by decide +kernel
theorem dX12_isLaid_14 : decode cX12_isLaid 14 = .ok (.iconst 0, 1) := by decide +kernel
theorem dX12_isLaid_15 : decode cX12_isLaid 15 = .ok (.ireturn, 1) := by decide +kernel
theorem dX12_carriedBy_0 : decode cX12_carriedBy 0 = .ok (.iconst 0, 1) := by decide +kernel
theorem dX12_carriedBy_1 : decode cX12_carriedBy 1 = .ok (.istore_n 2, 1) := by decide +kernel
theorem dX12_carriedBy_2 : decode cX12_carriedBy 2 = .ok (.iconst 0, 1) := by decide +kernel
theorem dX12_carriedBy_3 : decode cX12_carriedBy 3 = .ok (.istore_n 3, 1) := by decide +kernel
theorem dX12_carriedBy_4 : decode cX12_carriedBy 4 = .ok (.iload_n 3, 1) := by decide +kernel
theorem dX12_carriedBy_5 : decode cX12_carriedBy 5 = .ok (.aload_n 0, 1) := by decide +kernel
theorem dX12_carriedBy_6 : decode cX12_carriedBy 6 = .ok (.getfield 55, 3) := by decide +kernel
theorem dX12_carriedBy_9 : decode cX12_carriedBy 9 = .ok (.if_icmp .ge 40, 3) := by decide +kernel
theorem dX12_carriedBy_12 : decode cX12_carriedBy 12 = .ok (.iload_n 2, 1) := by decide +kernel
theorem dX12_carriedBy_13 : decode cX12_carriedBy 13 = .ok (.aload_n 0, 1) := by decide +kernel
theorem dX12_carriedBy_14 : decode cX12_carriedBy 14 = .ok (.iload_n 3, 1) := by decide +kernel
theorem dX12_carriedBy_15 : decode cX12_carriedBy 15 = .ok (.iconst 5, 1) := by decide +kernel
theorem dX12_carriedBy_16 : decode cX12_carriedBy 16 = .ok (.invokevirtual 81, 3) := by decide +kernel
theorem dX12_carriedBy_19 : decode cX12_carriedBy 19 = .ok (.iconst 1, 1) := by decide +kernel
theorem dX12_carriedBy_20 : decode cX12_carriedBy 20 = .ok (.if_icmp .ne 20, 3) := by decide +kernel
theorem dX12_carriedBy_23 : decode cX12_carriedBy 23 = .ok (.aload_n 0, 1) := by decide +kernel
theorem dX12_carriedBy_24 : decode cX12_carriedBy 24 = .ok (.iload_n 3, 1) := by decide +kernel
theorem dX12_carriedBy_25 : decode cX12_carriedBy 25 = .ok (.bipush 6, 2) := by decide +kernel
theorem dX12_carriedBy_27 : decode cX12_carriedBy 27 = .ok (.invokevirtual 81, 3) := by decide +kernel
theorem dX12_carriedBy_30 : decode cX12_carriedBy 30 = .ok (.iload_n 1, 1) := by decide +kernel
theorem dX12_carriedBy_31 : decode cX12_carriedBy 31 = .ok (.if_icmp .ne 9, 3) := by decide +kernel
theorem dX12_carriedBy_34 : decode cX12_carriedBy 34 = .ok (.iconst 1, 1) := by decide +kernel
theorem dX12_carriedBy_35 : decode cX12_carriedBy 35 = .ok (.iload_n 3, 1) := by decide +kernel
theorem dX12_carriedBy_36 : decode cX12_carriedBy 36 = .ok (.ishl, 1) := by decide +kernel
theorem dX12_carriedBy_37 : decode cX12_carriedBy 37 = .ok (.goto 4, 3) := by decide +kernel
theorem dX12_carriedBy_40 : decode cX12_carriedBy 40 = .ok (.iconst 0, 1) := by decide +kernel
theorem dX12_carriedBy_41 : decode cX12_carriedBy 41 = .ok (.ior, 1) := by decide +kernel
theorem dX12_carriedBy_42 : decode cX12_carriedBy 42 = .ok (.istore_n 2, 1) := by decide +kernel
theorem dX12_carriedBy_43 : decode cX12_carriedBy 43 = .ok (.iinc 3 1, 3) := by decide +kernel
theorem dX12_carriedBy_46 : decode cX12_carriedBy 46 = .ok (.goto (-42), 3) := by decide +kernel
theorem dX12_carriedBy_49 : decode cX12_carriedBy 49 = .ok (.iload_n 2, 1) := by decide +kernel
theorem dX12_carriedBy_50 : decode cX12_carriedBy 50 = .ok (.ireturn, 1) := by decide +kernel
theorem dX12_ones_0 : decode cX12_ones 0 = .ok (.iconst 0, 1) := by decide +kernel
theorem dX12_ones_1 : decode cX12_ones 1 = .ok (.istore_n 1, 1) := by decide +kernel
theorem dX12_ones_2 : decode cX12_ones 2 = .ok (.iload_n 0, 1) := by decide +kernel
theorem dX12_ones_3 : decode cX12_ones 3 = .ok (.istore_n 2, 1) := by decide +kernel
theorem dX12_ones_4 : decode cX12_ones 4 = .ok (.iload_n 2, 1) := by decide +kernel
theorem dX12_ones_5 : decode cX12_ones 5 = .ok (.ifCond .eq 15, 3) := by decide +kernel
theorem dX12_ones_8 : decode cX12_ones 8 = .ok (.iinc 1 1, 3) := by decide +kernel
theorem dX12_ones_11 : decode cX12_ones 11 = .ok (.iload_n 2, 1) := by decide +kernel
theorem dX12_ones_12 : decode cX12_ones 12 = .ok (.iload_n 2, 1) := by decide +kernel
theorem dX12_ones_13 : decode cX12_ones 13 = .ok (.iconst 1, 1) := by decide +kernel
theorem dX12_ones_14 : decode cX12_ones 14 = .ok (.isub, 1) := by decide +kernel
theorem dX12_ones_15 : decode cX12_ones 15 = .ok (.iand, 1) := by decide +kernel
theorem dX12_ones_16 : decode cX12_ones 16 = .ok (.istore_n 2, 1) := by decide +kernel
theorem dX12_ones_17 : decode cX12_ones 17 = .ok (.goto (-13), 3) := by decide +kernel
theorem dX12_ones_20 : decode cX12_ones 20 = .ok (.iload_n 1, 1) := by decide +kernel
theorem dX12_ones_21 : decode cX12_ones 21 = .ok (.ireturn, 1) := by decide +kernel
theorem dX12_has_0 : decode cX12_has 0 = .ok (.iload_n 1, 1) := by decide +kernel
theorem dX12_has_1 : decode cX12_has 1 = .ok (.iload_n 2, 1) := by decide +kernel
theorem dX12_has_2 : decode cX12_has 2 = .ok (.if_icmp .ne 20, 3) := by decide +kernel
theorem dX12_has_5 : decode cX12_has 5 = .ok (.aload_n 0, 1) := by decide +kernel
theorem dX12_has_6 : decode cX12_has 6 = .ok (.iload_n 2, 1) := by decide +kernel
theorem dX12_has_7 : decode cX12_has 7 = .ok (.iconst 5, 1) := by decide +kernel
theorem dX12_has_8 : decode cX12_has 8 = .ok (.invokevirtual 81, 3) := by decide +kernel
theorem dX12_has_11 : decode cX12_has 11 = .ok (.ifCond .ne 7, 3) := by decide +kernel
theorem dX12_has_14 : decode cX12_has 14 = .ok (.iconst 1, 1) := by decide +kernel
theorem dX12_has_15 : decode cX12_has 15 = .ok (.goto 33, 3) := by decide +kernel
theorem dX12_has_18 : decode cX12_has 18 = .ok (.iconst 0, 1) := by decide +kernel
theorem dX12_has_19 : decode cX12_has 19 = .ok (.goto 29, 3) := by decide +kernel
theorem dX12_has_22 : decode cX12_has 22 = .ok (.aload_n 0, 1) := by decide +kernel
theorem dX12_has_23 : decode cX12_has 23 = .ok (.iload_n 2, 1) := by decide +kernel
theorem dX12_has_24 : decode cX12_has 24 = .ok (.iconst 5, 1) := by decide +kernel
theorem dX12_has_25 : decode cX12_has 25 = .ok (.invokevirtual 81, 3) := by decide +kernel
theorem dX12_has_28 : decode cX12_has 28 = .ok (.iconst 1, 1) := by decide +kernel
theorem dX12_has_29 : decode cX12_has 29 = .ok (.if_icmp .ne 18, 3) := by decide +kernel
theorem dX12_has_32 : decode cX12_has 32 = .ok (.aload_n 0, 1) := by decide +kernel
theorem dX12_has_33 : decode cX12_has 33 = .ok (.iload_n 2, 1) := by decide +kernel
theorem dX12_has_34 : decode cX12_has 34 = .ok (.bipush 6, 2) := by decide +kernel
theorem dX12_has_36 : decode cX12_has 36 = .ok (.invokevirtual 81, 3) := by decide +kernel
theorem dX12_has_39 : decode cX12_has 39 = .ok (.iload_n 1, 1) := by decide +kernel
theorem dX12_has_40 : decode cX12_has 40 = .ok (.if_icmp .ne 7, 3) := by decide +kernel
theorem dX12_has_43 : decode cX12_has 43 = .ok (.iconst 1, 1) := by decide +kernel
theorem dX12_has_44 : decode cX12_has 44 = .ok (.goto 4, 3) := by decide +kernel
theorem dX12_has_47 : decode cX12_has 47 = .ok (.iconst 0, 1) := by decide +kernel
theorem dX12_has_48 : decode cX12_has 48 = .ok (.ireturn, 1) := by decide +kernel
theorem dX12_wrongBy_0 : decode cX12_wrongBy 0 = .ok (.iload_n 1, 1) := by decide +kernel
theorem dX12_wrongBy_1 : decode cX12_wrongBy 1 = .ok (.iload_n 2, 1) := by decide +kernel
theorem dX12_wrongBy_2 : decode cX12_wrongBy 2 = .ok (.if_icmp .ne 5, 3) := by decide +kernel
theorem dX12_wrongBy_5 : decode cX12_wrongBy 5 = .ok (.iconst 0, 1) := by decide +kernel
theorem dX12_wrongBy_6 : decode cX12_wrongBy 6 = .ok (.ireturn, 1) := by decide +kernel
theorem dX12_wrongBy_7 : decode cX12_wrongBy 7 = .ok (.aload_n 0, 1) := by decide +kernel
theorem dX12_wrongBy_8 : decode cX12_wrongBy 8 = .ok (.iload_n 2, 1) := by decide +kernel
theorem dX12_wrongBy_9 : decode cX12_wrongBy 9 = .ok (.invokevirtual 91, 3) := by decide +kernel
theorem dX12_wrongBy_12 : decode cX12_wrongBy 12 = .ok (.ifCond .ne 5, 3) := by decide +kernel
theorem dX12_wrongBy_15 : decode cX12_wrongBy 15 = .ok (.iconst 1, 1) := by decide +kernel
theorem dX12_wrongBy_16 : decode cX12_wrongBy 16 = .ok (.ireturn, 1) := by decide +kernel
theorem dX12_wrongBy_17 : decode cX12_wrongBy 17 = .ok (.aload_n 0, 1) := by decide +kernel
theorem dX12_wrongBy_18 : decode cX12_wrongBy 18 = .ok (.iload_n 2, 1) := by decide +kernel
theorem dX12_wrongBy_19 : decode cX12_wrongBy 19 = .ok (.bipush 7, 2) := by decide +kernel
theorem dX12_wrongBy_21 : decode cX12_wrongBy 21 = .ok (.invokevirtual 81, 3) := by decide +kernel
theorem dX12_wrongBy_24 : decode cX12_wrongBy 24 = .ok (.istore 4, 2) := by decide +kernel
theorem dX12_wrongBy_26 : decode cX12_wrongBy 26 = .ok (.aload_n 0, 1) := by decide +kernel
theorem dX12_wrongBy_27 : decode cX12_wrongBy 27 = .ok (.iload_n 1, 1) := by decide +kernel
theorem dX12_wrongBy_28 : decode cX12_wrongBy 28 = .ok (.iconst 4, 1) := by decide +kernel
theorem dX12_wrongBy_29 : decode cX12_wrongBy 29 = .ok (.invokevirtual 81, 3) := by decide +kernel
theorem dX12_wrongBy_32 : decode cX12_wrongBy 32 = .ok (.aload_n 0, 1) := by decide +kernel
theorem dX12_wrongBy_33 : decode cX12_wrongBy 33 = .ok (.getfield 17, 3) := by decide +kernel
theorem dX12_wrongBy_36 : decode cX12_wrongBy 36 = .ok (.bipush 7, 2) := by decide +kernel
theorem dX12_wrongBy_38 : decode cX12_wrongBy 38 = .ok (.iaload, 1) := by decide +kernel
theorem dX12_wrongBy_39 : decode cX12_wrongBy 39 = .ok (.if_icmp .lt 7, 3) := by decide +kernel
theorem dX12_wrongBy_42 : decode cX12_wrongBy 42 = .ok (.iconst 2, 1) := by decide +kernel
theorem dX12_wrongBy_43 : decode cX12_wrongBy 43 = .ok (.goto 19, 3) := by decide +kernel
theorem dX12_wrongBy_46 : decode cX12_wrongBy 46 = .ok (.iload 4, 2) := by decide +kernel
theorem dX12_wrongBy_48 : decode cX12_wrongBy 48 = .ok (.ifCond .lt 13, 3) := by decide +kernel
theorem dX12_wrongBy_51 : decode cX12_wrongBy 51 = .ok (.iload 4, 2) := by decide +kernel
theorem dX12_wrongBy_53 : decode cX12_wrongBy 53 = .ok (.iload_n 3, 1) := by decide +kernel
theorem dX12_wrongBy_54 : decode cX12_wrongBy 54 = .ok (.if_icmp .eq 7, 3) := by decide +kernel
theorem dX12_wrongBy_57 : decode cX12_wrongBy 57 = .ok (.iconst 3, 1) := by decide +kernel
theorem dX12_wrongBy_58 : decode cX12_wrongBy 58 = .ok (.goto 4, 3) := by decide +kernel
theorem dX12_wrongBy_61 : decode cX12_wrongBy 61 = .ok (.iconst 0, 1) := by decide +kernel
theorem dX12_wrongBy_62 : decode cX12_wrongBy 62 = .ok (.ireturn, 1) := by decide +kernel
theorem dX12_setIn_0 : decode cX12_setIn 0 = .ok (.iconst 0, 1) := by decide +kernel
theorem dX12_setIn_1 : decode cX12_setIn 1 = .ok (.istore_n 2, 1) := by decide +kernel
theorem dX12_setIn_2 : decode cX12_setIn 2 = .ok (.iconst 0, 1) := by decide +kernel
theorem dX12_setIn_3 : decode cX12_setIn 3 = .ok (.istore_n 3, 1) := by decide +kernel
theorem dX12_setIn_4 : decode cX12_setIn 4 = .ok (.iload_n 3, 1) := by decide +kernel
theorem dX12_setIn_5 : decode cX12_setIn 5 = .ok (.aload_n 0, 1) := by decide +kernel
theorem dX12_setIn_6 : decode cX12_setIn 6 = .ok (.getfield 55, 3) := by decide +kernel
theorem dX12_setIn_9 : decode cX12_setIn 9 = .ok (.if_icmp .ge 40, 3) := by decide +kernel
theorem dX12_setIn_12 : decode cX12_setIn 12 = .ok (.iload_n 2, 1) := by decide +kernel
theorem dX12_setIn_13 : decode cX12_setIn 13 = .ok (.aload_n 0, 1) := by decide +kernel
theorem dX12_setIn_14 : decode cX12_setIn 14 = .ok (.iload_n 3, 1) := by decide +kernel
theorem dX12_setIn_15 : decode cX12_setIn 15 = .ok (.iconst 5, 1) := by decide +kernel
theorem dX12_setIn_16 : decode cX12_setIn 16 = .ok (.invokevirtual 81, 3) := by decide +kernel
theorem dX12_setIn_19 : decode cX12_setIn 19 = .ok (.iconst 2, 1) := by decide +kernel
theorem dX12_setIn_20 : decode cX12_setIn 20 = .ok (.if_icmp .ne 20, 3) := by decide +kernel
theorem dX12_setIn_23 : decode cX12_setIn 23 = .ok (.aload_n 0, 1) := by decide +kernel
theorem dX12_setIn_24 : decode cX12_setIn 24 = .ok (.iload_n 3, 1) := by decide +kernel
theorem dX12_setIn_25 : decode cX12_setIn 25 = .ok (.bipush 8, 2) := by decide +kernel
theorem dX12_setIn_27 : decode cX12_setIn 27 = .ok (.invokevirtual 81, 3) := by decide +kernel
theorem dX12_setIn_30 : decode cX12_setIn 30 = .ok (.iload_n 1, 1) := by decide +kernel
theorem dX12_setIn_31 : decode cX12_setIn 31 = .ok (.if_icmp .ne 9, 3) := by decide +kernel
theorem dX12_setIn_34 : decode cX12_setIn 34 = .ok (.iconst 1, 1) := by decide +kernel
theorem dX12_setIn_35 : decode cX12_setIn 35 = .ok (.iload_n 3, 1) := by decide +kernel
theorem dX12_setIn_36 : decode cX12_setIn 36 = .ok (.ishl, 1) := by decide +kernel
theorem dX12_setIn_37 : decode cX12_setIn 37 = .ok (.goto 4, 3) := by decide +kernel
theorem dX12_setIn_40 : decode cX12_setIn 40 = .ok (.iconst 0, 1) := by decide +kernel
theorem dX12_setIn_41 : decode cX12_setIn 41 = .ok (.ior, 1) := by decide +kernel
theorem dX12_setIn_42 : decode cX12_setIn 42 = .ok (.istore_n 2, 1) := by decide +kernel
theorem dX12_setIn_43 : decode cX12_setIn 43 = .ok (.iinc 3 1, 3) := by decide +kernel
theorem dX12_setIn_46 : decode cX12_setIn 46 = .ok (.goto (-42), 3) := by decide +kernel
theorem dX12_setIn_49 : decode cX12_setIn 49 = .ok (.iload_n 2, 1) := by decide +kernel
theorem dX12_setIn_50 : decode cX12_setIn 50 = .ok (.ireturn, 1) := by decide +kernel
theorem dX12_allLaid_0 : decode cX12_allLaid 0 = .ok (.iconst 0, 1) := by decide +kernel
theorem dX12_allLaid_1 : decode cX12_allLaid 1 = .ok (.istore_n 1, 1) := by decide +kernel
theorem dX12_allLaid_2 : decode cX12_allLaid 2 = .ok (.iconst 0, 1) := by decide +kernel
theorem dX12_allLaid_3 : decode cX12_allLaid 3 = .ok (.istore_n 2, 1) := by decide +kernel
theorem dX12_allLaid_4 : decode cX12_allLaid 4 = .ok (.iload_n 2, 1) := by decide +kernel
theorem dX12_allLaid_5 : decode cX12_allLaid 5 = .ok (.iconst 4, 1) := by decide +kernel
theorem dX12_allLaid_6 : decode cX12_allLaid 6 = .ok (.if_icmp .ge 17, 3) := by decide +kernel
theorem dX12_allLaid_9 : decode cX12_allLaid 9 = .ok (.iload_n 1, 1) := by decide +kernel
theorem dX12_allLaid_10 : decode cX12_allLaid 10 = .ok (.aload_n 0, 1) := by decide +kernel
theorem dX12_allLaid_11 : decode cX12_allLaid 11 = .ok (.iload_n 2, 1) := by decide +kernel
theorem dX12_allLaid_12 : decode cX12_allLaid 12 = .ok (.invokevirtual 95, 3) := by decide +kernel
theorem dX12_allLaid_15 : decode cX12_allLaid 15 = .ok (.ior, 1) := by decide +kernel
theorem dX12_allLaid_16 : decode cX12_allLaid 16 = .ok (.istore_n 1, 1) := by decide +kernel
theorem dX12_allLaid_17 : decode cX12_allLaid 17 = .ok (.iinc 2 1, 3) := by decide +kernel
theorem dX12_allLaid_20 : decode cX12_allLaid 20 = .ok (.goto (-16), 3) := by decide +kernel
theorem dX12_allLaid_23 : decode cX12_allLaid 23 = .ok (.iload_n 1, 1) := by decide +kernel
theorem dX12_allLaid_24 : decode cX12_allLaid 24 = .ok (.ireturn, 1) := by decide +kernel
theorem dX12_turnout_0 : decode cX12_turnout 0 = .ok (.aload_n 0, 1) := by decide +kernel
theorem dX12_turnout_1 : decode cX12_turnout 1 = .ok (.invokevirtual 99, 3) := by decide +kernel
theorem dX12_turnout_4 : decode cX12_turnout 4 = .ok (.invokestatic 103, 3) := by decide +kernel
theorem dX12_turnout_7 : decode cX12_turnout 7 = .ok (.ireturn, 1) := by decide +kernel
theorem dX12_wrongSet_0 : decode cX12_wrongSet 0 = .ok (.iconst 0, 1) := by decide +kernel
theorem dX12_wrongSet_1 : decode cX12_wrongSet 1 = .ok (.istore_n 1, 1) := by decide +kernel
theorem dX12_wrongSet_2 : decode cX12_wrongSet 2 = .ok (.iconst 0, 1) := by decide +kernel
theorem dX12_wrongSet_3 : decode cX12_wrongSet 3 = .ok (.istore_n 2, 1) := by decide +kernel
theorem dX12_wrongSet_4 : decode cX12_wrongSet 4 = .ok (.iload_n 2, 1) := by decide +kernel
theorem dX12_wrongSet_5 : decode cX12_wrongSet 5 = .ok (.aload_n 0, 1) := by decide +kernel
theorem dX12_wrongSet_6 : decode cX12_wrongSet 6 = .ok (.getfield 55, 3) := by decide +kernel
theorem dX12_wrongSet_9 : decode cX12_wrongSet 9 = .ok (.if_icmp .ge 39, 3) := by decide +kernel
theorem dX12_wrongSet_12 : decode cX12_wrongSet 12 = .ok (.iload_n 1, 1) := by decide +kernel
theorem dX12_wrongSet_13 : decode cX12_wrongSet 13 = .ok (.aload_n 0, 1) := by decide +kernel
theorem dX12_wrongSet_14 : decode cX12_wrongSet 14 = .ok (.iload_n 2, 1) := by decide +kernel
theorem dX12_wrongSet_15 : decode cX12_wrongSet 15 = .ok (.iconst 5, 1) := by decide +kernel
theorem dX12_wrongSet_16 : decode cX12_wrongSet 16 = .ok (.invokevirtual 81, 3) := by decide +kernel
theorem dX12_wrongSet_19 : decode cX12_wrongSet 19 = .ok (.iconst 2, 1) := by decide +kernel
theorem dX12_wrongSet_20 : decode cX12_wrongSet 20 = .ok (.if_icmp .ne 19, 3) := by decide +kernel
theorem dX12_wrongSet_23 : decode cX12_wrongSet 23 = .ok (.aload_n 0, 1) := by decide +kernel
theorem dX12_wrongSet_24 : decode cX12_wrongSet 24 = .ok (.iload_n 2, 1) := by decide +kernel
theorem dX12_wrongSet_25 : decode cX12_wrongSet 25 = .ok (.bipush 10, 2) := by decide +kernel
theorem dX12_wrongSet_27 : decode cX12_wrongSet 27 = .ok (.invokevirtual 81, 3) := by decide +kernel
theorem dX12_wrongSet_30 : decode cX12_wrongSet 30 = .ok (.ifCond .le 9, 3) := by decide +kernel
theorem dX12_wrongSet_33 : decode cX12_wrongSet 33 = .ok (.iconst 1, 1) := by decide +kernel
theorem dX12_wrongSet_34 : decode cX12_wrongSet 34 = .ok (.iload_n 2, 1) := by decide +kernel
theorem dX12_wrongSet_35 : decode cX12_wrongSet 35 = .ok (.ishl, 1) := by decide +kernel
theorem dX12_wrongSet_36 : decode cX12_wrongSet 36 = .ok (.goto 4, 3) := by decide +kernel
theorem dX12_wrongSet_39 : decode cX12_wrongSet 39 = .ok (.iconst 0, 1) := by decide +kernel
theorem dX12_wrongSet_40 : decode cX12_wrongSet 40 = .ok (.ior, 1) := by decide +kernel
theorem dX12_wrongSet_41 : decode cX12_wrongSet 41 = .ok (.istore_n 1, 1) := by decide +kernel
theorem dX12_wrongSet_42 : decode cX12_wrongSet 42 = .ok (.iinc 2 1, 3) := by decide +kernel
theorem dX12_wrongSet_45 : decode cX12_wrongSet 45 = .ok (.goto (-41), 3) := by decide +kernel
theorem dX12_wrongSet_48 : decode cX12_wrongSet 48 = .ok (.iload_n 1, 1) := by decide +kernel
theorem dX12_wrongSet_49 : decode cX12_wrongSet 49 = .ok (.ireturn, 1) := by decide +kernel
theorem dX12_struckMany_0 : decode cX12_struckMany 0 = .ok (.iconst 0, 1) := by decide +kernel
theorem dX12_struckMany_1 : decode cX12_struckMany 1 = .ok (.istore_n 1, 1) := by decide +kernel
theorem dX12_struckMany_2 : decode cX12_struckMany 2 = .ok (.iconst 0, 1) := by decide +kernel
theorem dX12_struckMany_3 : decode cX12_struckMany 3 = .ok (.istore_n 2, 1) := by decide +kernel
theorem dX12_struckMany_4 : decode cX12_struckMany 4 = .ok (.iload_n 2, 1) := by decide +kernel
theorem dX12_struckMany_5 : decode cX12_struckMany 5 = .ok (.aload_n 0, 1) := by decide +kernel
theorem dX12_struckMany_6 : decode cX12_struckMany 6 = .ok (.getfield 55, 3) := by decide +kernel
theorem dX12_struckMany_9 : decode cX12_struckMany 9 = .ok (.if_icmp .ge 27, 3) := by decide +kernel
theorem dX12_struckMany_12 : decode cX12_struckMany 12 = .ok (.iload_n 1, 1) := by decide +kernel
theorem dX12_struckMany_13 : decode cX12_struckMany 13 = .ok (.aload_n 0, 1) := by decide +kernel
theorem dX12_struckMany_14 : decode cX12_struckMany 14 = .ok (.iload_n 2, 1) := by decide +kernel
theorem dX12_struckMany_15 : decode cX12_struckMany 15 = .ok (.iconst 5, 1) := by decide +kernel
theorem dX12_struckMany_16 : decode cX12_struckMany 16 = .ok (.invokevirtual 81, 3) := by decide +kernel
theorem dX12_struckMany_19 : decode cX12_struckMany 19 = .ok (.iconst 3, 1) := by decide +kernel
theorem dX12_struckMany_20 : decode cX12_struckMany 20 = .ok (.if_icmp .ne 7, 3) := by decide +kernel
theorem dX12_struckMany_23 : decode cX12_struckMany 23 = .ok (.iconst 1, 1) := by decide +kernel
theorem dX12_struckMany_24 : decode cX12_struckMany 24 = .ok (.goto 4, 3) := by decide +kernel
theorem dX12_struckMany_27 : decode cX12_struckMany 27 = .ok (.iconst 0, 1) := by decide +kernel
theorem dX12_struckMany_28 : decode cX12_struckMany 28 = .ok (.iadd, 1) := by decide +kernel
theorem dX12_struckMany_29 : decode cX12_struckMany 29 = .ok (.istore_n 1, 1) := by decide +kernel
theorem dX12_struckMany_30 : decode cX12_struckMany 30 = .ok (.iinc 2 1, 3) := by decide +kernel
theorem dX12_struckMany_33 : decode cX12_struckMany 33 = .ok (.goto (-29), 3) := by decide +kernel
theorem dX12_struckMany_36 : decode cX12_struckMany 36 = .ok (.iload_n 1, 1) := by decide +kernel
theorem dX12_struckMany_37 : decode cX12_struckMany 37 = .ok (.ireturn, 1) := by decide +kernel
theorem dX12_resultOf_0 : decode cX12_resultOf 0 = .ok (.iconst 0, 1) := by decide +kernel
theorem dX12_resultOf_1 : decode cX12_resultOf 1 = .ok (.istore 5, 2) := by decide +kernel
theorem dX12_resultOf_3 : decode cX12_resultOf 3 = .ok (.iconst 0, 1) := by decide +kernel
theorem dX12_resultOf_4 : decode cX12_resultOf 4 = .ok (.istore 6, 2) := by decide +kernel
theorem dX12_resultOf_6 : decode cX12_resultOf 6 = .ok (.iconst 0, 1) := by decide +kernel
theorem dX12_resultOf_7 : decode cX12_resultOf 7 = .ok (.istore 7, 2) := by decide +kernel
theorem dX12_resultOf_9 : decode cX12_resultOf 9 = .ok (.iconst 0, 1) := by decide +kernel
theorem dX12_resultOf_10 : decode cX12_resultOf 10 = .ok (.istore 8, 2) := by decide +kernel
theorem dX12_resultOf_12 : decode cX12_resultOf 12 = .ok (.iload 8, 2) := by decide +kernel
theorem dX12_resultOf_14 : decode cX12_resultOf 14 = .ok (.iconst 4, 1) := by decide +kernel
theorem dX12_resultOf_15 : decode cX12_resultOf 15 = .ok (.if_icmp .ge 95, 3) := by decide +kernel
theorem dX12_resultOf_18 : decode cX12_resultOf 18 = .ok (.aload_n 0, 1) := by decide +kernel
theorem dX12_resultOf_19 : decode cX12_resultOf 19 = .ok (.iload 8, 2) := by decide +kernel
theorem dX12_resultOf_21 : decode cX12_resultOf 21 = .ok (.invokevirtual 95, 3) := by decide +kernel
theorem dX12_resultOf_24 : decode cX12_resultOf 24 = .ok (.iload_n 2, 1) := by decide +kernel
theorem dX12_resultOf_25 : decode cX12_resultOf 25 = .ok (.iconst (-1), 1) := by decide +kernel
theorem dX12_resultOf_26 : decode cX12_resultOf 26 = .ok (.ixor, 1) := by decide +kernel
theorem dX12_resultOf_27 : decode cX12_resultOf 27 = .ok (.iand, 1) := by decide +kernel
theorem dX12_resultOf_28 : decode cX12_resultOf 28 = .ok (.iload 8, 2) := by decide +kernel
theorem dX12_resultOf_30 : decode cX12_resultOf 30 = .ok (.iload 4, 2) := by decide +kernel
theorem dX12_resultOf_32 : decode cX12_resultOf 32 = .ok (.if_icmp .ne 7, 3) := by decide +kernel
theorem dX12_resultOf_35 : decode cX12_resultOf 35 = .ok (.iload_n 3, 1) := by decide +kernel
theorem dX12_resultOf_36 : decode cX12_resultOf 36 = .ok (.goto 4, 3) := by decide +kernel
theorem dX12_resultOf_39 : decode cX12_resultOf 39 = .ok (.iconst 0, 1) := by decide +kernel
theorem dX12_resultOf_40 : decode cX12_resultOf 40 = .ok (.ior, 1) := by decide +kernel
theorem dX12_resultOf_41 : decode cX12_resultOf 41 = .ok (.istore 9, 2) := by decide +kernel
theorem dX12_resultOf_43 : decode cX12_resultOf 43 = .ok (.iload 9, 2) := by decide +kernel
theorem dX12_resultOf_45 : decode cX12_resultOf 45 = .ok (.invokestatic 103, 3) := by decide +kernel
theorem dX12_resultOf_48 : decode cX12_resultOf 48 = .ok (.istore 10, 2) := by decide +kernel
theorem dX12_resultOf_50 : decode cX12_resultOf 50 = .ok (.iload 5, 2) := by decide +kernel
theorem dX12_resultOf_52 : decode cX12_resultOf 52 = .ok (.iload 10, 2) := by decide +kernel
theorem dX12_resultOf_54 : decode cX12_resultOf 54 = .ok (.iadd, 1) := by decide +kernel
theorem dX12_resultOf_55 : decode cX12_resultOf 55 = .ok (.istore 5, 2) := by decide +kernel
theorem dX12_resultOf_57 : decode cX12_resultOf 57 = .ok (.iload 10, 2) := by decide +kernel
theorem dX12_resultOf_59 : decode cX12_resultOf 59 = .ok (.iload 6, 2) := by decide +kernel
theorem dX12_resultOf_61 : decode cX12_resultOf 61 = .ok (.if_icmp .le 8, 3) := by decide +kernel
theorem dX12_resultOf_64 : decode cX12_resultOf 64 = .ok (.iload 9, 2) := by decide +kernel
theorem dX12_resultOf_66 : decode cX12_resultOf 66 = .ok (.goto 20, 3) := by decide +kernel
theorem dX12_resultOf_69 : decode cX12_resultOf 69 = .ok (.iload 10, 2) := by decide +kernel
theorem dX12_resultOf_71 : decode cX12_resultOf 71 = .ok (.iload 6, 2) := by decide +kernel
theorem dX12_resultOf_73 : decode cX12_resultOf 73 = .ok (.if_icmp .ne 11, 3) := by decide +kernel
theorem dX12_resultOf_76 : decode cX12_resultOf 76 = .ok (.iload 7, 2) := by decide +kernel
theorem dX12_resultOf_78 : decode cX12_resultOf 78 = .ok (.iload 9, 2) := by decide +kernel
theorem dX12_resultOf_80 : decode cX12_resultOf 80 = .ok (.ior, 1) := by decide +kernel
theorem dX12_resultOf_81 : decode cX12_resultOf 81 = .ok (.goto 5, 3) := by decide +kernel
theorem dX12_resultOf_84 : decode cX12_resultOf 84 = .ok (.iload 7, 2) := by decide +kernel
theorem dX12_resultOf_86 : decode cX12_resultOf 86 = .ok (.istore 7, 2) := by decide +kernel
theorem dX12_resultOf_88 : decode cX12_resultOf 88 = .ok (.iload 10, 2) := by decide +kernel
theorem dX12_resultOf_90 : decode cX12_resultOf 90 = .ok (.iload 6, 2) := by decide +kernel
theorem dX12_resultOf_92 : decode cX12_resultOf 92 = .ok (.if_icmp .le 8, 3) := by decide +kernel
theorem dX12_resultOf_95 : decode cX12_resultOf 95 = .ok (.iload 10, 2) := by decide +kernel
theorem dX12_resultOf_97 : decode cX12_resultOf 97 = .ok (.goto 5, 3) := by decide +kernel
theorem dX12_resultOf_100 : decode cX12_resultOf 100 = .ok (.iload 6, 2) := by decide +kernel
theorem dX12_resultOf_102 : decode cX12_resultOf 102 = .ok (.istore 6, 2) := by decide +kernel
theorem dX12_resultOf_104 : decode cX12_resultOf 104 = .ok (.iinc 8 1, 3) := by decide +kernel
theorem dX12_resultOf_107 : decode cX12_resultOf 107 = .ok (.goto (-95), 3) := by decide +kernel
theorem dX12_resultOf_110 : decode cX12_resultOf 110 = .ok (.iload 5, 2) := by decide +kernel
theorem dX12_resultOf_112 : decode cX12_resultOf 112 = .ok (.iload_n 1, 1) := by decide +kernel
theorem dX12_resultOf_113 : decode cX12_resultOf 113 = .ok (.if_icmp .lt 8, 3) := by decide +kernel
theorem dX12_resultOf_116 : decode cX12_resultOf 116 = .ok (.iload 5, 2) := by decide +kernel
theorem dX12_resultOf_118 : decode cX12_resultOf 118 = .ok (.ifCond .ne 6, 3) := by decide +kernel
theorem dX12_resultOf_121 : decode cX12_resultOf 121 = .ok (.bipush (-2), 2) := by decide +kernel
theorem dX12_resultOf_123 : decode cX12_resultOf 123 = .ok (.ireturn, 1) := by decide +kernel
theorem dX12_resultOf_124 : decode cX12_resultOf 124 = .ok (.iconst 0, 1) := by decide +kernel
theorem dX12_resultOf_125 : decode cX12_resultOf 125 = .ok (.istore 8, 2) := by decide +kernel
theorem dX12_resultOf_127 : decode cX12_resultOf 127 = .ok (.iload 7, 2) := by decide +kernel
theorem dX12_resultOf_129 : decode cX12_resultOf 129 = .ok (.iload 8, 2) := by decide +kernel
theorem dX12_resultOf_131 : decode cX12_resultOf 131 = .ok (.ishr, 1) := by decide +kernel
theorem dX12_resultOf_132 : decode cX12_resultOf 132 = .ok (.iconst 1, 1) := by decide +kernel
theorem dX12_resultOf_133 : decode cX12_resultOf 133 = .ok (.iand, 1) := by decide +kernel
theorem dX12_resultOf_134 : decode cX12_resultOf 134 = .ok (.ifCond .ne 9, 3) := by decide +kernel
theorem dX12_resultOf_137 : decode cX12_resultOf 137 = .ok (.iinc 8 1, 3) := by decide +kernel
theorem dX12_resultOf_140 : decode cX12_resultOf 140 = .ok (.goto (-13), 3) := by decide +kernel
theorem dX12_resultOf_143 : decode cX12_resultOf 143 = .ok (.iload_n 3, 1) := by decide +kernel
theorem dX12_resultOf_144 : decode cX12_resultOf 144 = .ok (.iload 8, 2) := by decide +kernel
theorem dX12_resultOf_146 : decode cX12_resultOf 146 = .ok (.ishr, 1) := by decide +kernel
theorem dX12_resultOf_147 : decode cX12_resultOf 147 = .ok (.iconst 1, 1) := by decide +kernel
theorem dX12_resultOf_148 : decode cX12_resultOf 148 = .ok (.iand, 1) := by decide +kernel
theorem dX12_resultOf_149 : decode cX12_resultOf 149 = .ok (.iconst 1, 1) := by decide +kernel
theorem dX12_resultOf_150 : decode cX12_resultOf 150 = .ok (.if_icmp .ne 8, 3) := by decide +kernel
theorem dX12_resultOf_153 : decode cX12_resultOf 153 = .ok (.iload 4, 2) := by decide +kernel
theorem dX12_resultOf_155 : decode cX12_resultOf 155 = .ok (.goto 11, 3) := by decide +kernel
theorem dX12_resultOf_158 : decode cX12_resultOf 158 = .ok (.aload_n 0, 1) := by decide +kernel
theorem dX12_resultOf_159 : decode cX12_resultOf 159 = .ok (.iload 8, 2) := by decide +kernel
theorem dX12_resultOf_161 : decode cX12_resultOf 161 = .ok (.bipush 8, 2) := by decide +kernel
theorem dX12_resultOf_163 : decode cX12_resultOf 163 = .ok (.invokevirtual 81, 3) := by decide +kernel
theorem dX12_resultOf_166 : decode cX12_resultOf 166 = .ok (.ireturn, 1) := by decide +kernel
theorem dX12_needOn_0 : decode cX12_needOn 0 = .ok (.aload_n 0, 1) := by decide +kernel
theorem dX12_needOn_1 : decode cX12_needOn 1 = .ok (.getfield 17, 3) := by decide +kernel
theorem dX12_needOn_4 : decode cX12_needOn 4 = .ok (.iconst 1, 1) := by decide +kernel
theorem dX12_needOn_5 : decode cX12_needOn 5 = .ok (.iload_n 1, 1) := by decide +kernel
theorem dX12_needOn_6 : decode cX12_needOn 6 = .ok (.aload_n 0, 1) := by decide +kernel
theorem dX12_needOn_7 : decode cX12_needOn 7 = .ok (.getfield 17, 3) := by decide +kernel
theorem dX12_needOn_10 : decode cX12_needOn 10 = .ok (.iconst 0, 1) := by decide +kernel
theorem dX12_needOn_11 : decode cX12_needOn 11 = .ok (.iaload, 1) := by decide +kernel
theorem dX12_needOn_12 : decode cX12_needOn 12 = .ok (.idiv, 1) := by decide +kernel
theorem dX12_needOn_13 : decode cX12_needOn 13 = .ok (.iconst 4, 1) := by decide +kernel
theorem dX12_needOn_14 : decode cX12_needOn 14 = .ok (.irem, 1) := by decide +kernel
theorem dX12_needOn_15 : decode cX12_needOn 15 = .ok (.iadd, 1) := by decide +kernel
theorem dX12_needOn_16 : decode cX12_needOn 16 = .ok (.iaload, 1) := by decide +kernel
theorem dX12_needOn_17 : decode cX12_needOn 17 = .ok (.istore_n 3, 1) := by decide +kernel
theorem dX12_needOn_18 : decode cX12_needOn 18 = .ok (.iload_n 3, 1) := by decide +kernel
theorem dX12_needOn_19 : decode cX12_needOn 19 = .ok (.aload_n 0, 1) := by decide +kernel
theorem dX12_needOn_20 : decode cX12_needOn 20 = .ok (.getfield 55, 3) := by decide +kernel
theorem dX12_needOn_23 : decode cX12_needOn 23 = .ok (.imul, 1) := by decide +kernel
theorem dX12_needOn_24 : decode cX12_needOn 24 = .ok (.bipush 99, 2) := by decide +kernel
theorem dX12_needOn_26 : decode cX12_needOn 26 = .ok (.iadd, 1) := by decide +kernel
theorem dX12_needOn_27 : decode cX12_needOn 27 = .ok (.bipush 100, 2) := by decide +kernel
theorem dX12_needOn_29 : decode cX12_needOn 29 = .ok (.idiv, 1) := by decide +kernel
theorem dX12_needOn_30 : decode cX12_needOn 30 = .ok (.aload_n 0, 1) := by decide +kernel
theorem dX12_needOn_31 : decode cX12_needOn 31 = .ok (.getfield 17, 3) := by decide +kernel
theorem dX12_needOn_34 : decode cX12_needOn 34 = .ok (.iconst 5, 1) := by decide +kernel
theorem dX12_needOn_35 : decode cX12_needOn 35 = .ok (.iaload, 1) := by decide +kernel
theorem dX12_needOn_36 : decode cX12_needOn 36 = .ok (.iload_n 2, 1) := by decide +kernel
theorem dX12_needOn_37 : decode cX12_needOn 37 = .ok (.imul, 1) := by decide +kernel
theorem dX12_needOn_38 : decode cX12_needOn 38 = .ok (.isub, 1) := by decide +kernel
theorem dX12_needOn_39 : decode cX12_needOn 39 = .ok (.istore 4, 2) := by decide +kernel
theorem dX12_needOn_41 : decode cX12_needOn 41 = .ok (.iload 4, 2) := by decide +kernel
theorem dX12_needOn_43 : decode cX12_needOn 43 = .ok (.aload_n 0, 1) := by decide +kernel
theorem dX12_needOn_44 : decode cX12_needOn 44 = .ok (.getfield 17, 3) := by decide +kernel
theorem dX12_needOn_47 : decode cX12_needOn 47 = .ok (.bipush 6, 2) := by decide +kernel
theorem dX12_needOn_49 : decode cX12_needOn 49 = .ok (.iaload, 1) := by decide +kernel
theorem dX12_needOn_50 : decode cX12_needOn 50 = .ok (.if_icmp .ge 13, 3) := by decide +kernel
theorem dX12_needOn_53 : decode cX12_needOn 53 = .ok (.aload_n 0, 1) := by decide +kernel
theorem dX12_needOn_54 : decode cX12_needOn 54 = .ok (.getfield 17, 3) := by decide +kernel
theorem dX12_needOn_57 : decode cX12_needOn 57 = .ok (.bipush 6, 2) := by decide +kernel
theorem dX12_needOn_59 : decode cX12_needOn 59 = .ok (.iaload, 1) := by decide +kernel
theorem dX12_needOn_60 : decode cX12_needOn 60 = .ok (.goto 5, 3) := by decide +kernel
theorem dX12_needOn_63 : decode cX12_needOn 63 = .ok (.iload 4, 2) := by decide +kernel
theorem dX12_needOn_65 : decode cX12_needOn 65 = .ok (.ireturn, 1) := by decide +kernel
theorem dX12_outOn_0 : decode cX12_outOn 0 = .ok (.iconst 0, 1) := by decide +kernel
theorem dX12_outOn_1 : decode cX12_outOn 1 = .ok (.istore_n 2, 1) := by decide +kernel
theorem dX12_outOn_2 : decode cX12_outOn 2 = .ok (.iconst 0, 1) := by decide +kernel
theorem dX12_outOn_3 : decode cX12_outOn 3 = .ok (.istore_n 3, 1) := by decide +kernel
theorem dX12_outOn_4 : decode cX12_outOn 4 = .ok (.iload_n 3, 1) := by decide +kernel
theorem dX12_outOn_5 : decode cX12_outOn 5 = .ok (.aload_n 0, 1) := by decide +kernel
theorem dX12_outOn_6 : decode cX12_outOn 6 = .ok (.getfield 76, 3) := by decide +kernel
theorem dX12_outOn_9 : decode cX12_outOn 9 = .ok (.if_icmp .ge 35, 3) := by decide +kernel
theorem dX12_outOn_12 : decode cX12_outOn 12 = .ok (.iload_n 2, 1) := by decide +kernel
theorem dX12_outOn_13 : decode cX12_outOn 13 = .ok (.aload_n 0, 1) := by decide +kernel
theorem dX12_outOn_14 : decode cX12_outOn 14 = .ok (.iload_n 3, 1) := by decide +kernel
theorem dX12_outOn_15 : decode cX12_outOn 15 = .ok (.invokevirtual 106, 3) := by decide +kernel
theorem dX12_outOn_18 : decode cX12_outOn 18 = .ok (.ifCond .eq 17, 3) := by decide +kernel
theorem dX12_outOn_21 : decode cX12_outOn 21 = .ok (.aload_n 0, 1) := by decide +kernel
theorem dX12_outOn_22 : decode cX12_outOn 22 = .ok (.iload_n 3, 1) := by decide +kernel
theorem dX12_outOn_23 : decode cX12_outOn 23 = .ok (.iconst 1, 1) := by decide +kernel
theorem dX12_outOn_24 : decode cX12_outOn 24 = .ok (.invokevirtual 85, 3) := by decide +kernel
theorem dX12_outOn_27 : decode cX12_outOn 27 = .ok (.iload_n 1, 1) := by decide +kernel
theorem dX12_outOn_28 : decode cX12_outOn 28 = .ok (.if_icmp .le 7, 3) := by decide +kernel
theorem dX12_outOn_31 : decode cX12_outOn 31 = .ok (.iconst 1, 1) := by decide +kernel
theorem dX12_outOn_32 : decode cX12_outOn 32 = .ok (.goto 4, 3) := by decide +kernel
theorem dX12_outOn_35 : decode cX12_outOn 35 = .ok (.iconst 0, 1) := by decide +kernel
theorem dX12_outOn_36 : decode cX12_outOn 36 = .ok (.iadd, 1) := by decide +kernel
theorem dX12_outOn_37 : decode cX12_outOn 37 = .ok (.istore_n 2, 1) := by decide +kernel
theorem dX12_outOn_38 : decode cX12_outOn 38 = .ok (.iinc 3 1, 3) := by decide +kernel
theorem dX12_outOn_41 : decode cX12_outOn 41 = .ok (.goto (-37), 3) := by decide +kernel
theorem dX12_outOn_44 : decode cX12_outOn 44 = .ok (.iload_n 2, 1) := by decide +kernel
theorem dX12_outOn_45 : decode cX12_outOn 45 = .ok (.ireturn, 1) := by decide +kernel
theorem dX12_needIn0_0 : decode cX12_needIn0 0 = .ok (.aload_n 0, 1) := by decide +kernel
theorem dX12_needIn0_1 : decode cX12_needIn0 1 = .ok (.getfield 30, 3) := by decide +kernel
theorem dX12_needIn0_4 : decode cX12_needIn0 4 = .ok (.iconst 0, 1) := by decide +kernel
theorem dX12_needIn0_5 : decode cX12_needIn0 5 = .ok (.iaload, 1) := by decide +kernel
theorem dX12_needIn0_6 : decode cX12_needIn0 6 = .ok (.iload_n 1, 1) := by decide +kernel
theorem dX12_needIn0_7 : decode cX12_needIn0 7 = .ok (.iadd, 1) := by decide +kernel
theorem dX12_needIn0_8 : decode cX12_needIn0 8 = .ok (.istore_n 2, 1) := by decide +kernel
theorem dX12_needIn0_9 : decode cX12_needIn0 9 = .ok (.aload_n 0, 1) := by decide +kernel
theorem dX12_needIn0_10 : decode cX12_needIn0 10 = .ok (.iload_n 2, 1) := by decide +kernel
theorem dX12_needIn0_11 : decode cX12_needIn0 11 = .ok (.aload_n 0, 1) := by decide +kernel
theorem dX12_needIn0_12 : decode cX12_needIn0 12 = .ok (.iload_n 2, 1) := by decide +kernel
theorem dX12_needIn0_13 : decode cX12_needIn0 13 = .ok (.invokevirtual 109, 3) := by decide +kernel
theorem dX12_needIn0_16 : decode cX12_needIn0 16 = .ok (.invokevirtual 112, 3) := by decide +kernel
theorem dX12_needIn0_19 : decode cX12_needIn0 19 = .ok (.ireturn, 1) := by decide +kernel
theorem dX12_isClosed_0 : decode cX12_isClosed 0 = .ok (.aload_n 0, 1) := by decide +kernel
theorem dX12_isClosed_1 : decode cX12_isClosed 1 = .ok (.getfield 30, 3) := by decide +kernel
theorem dX12_isClosed_4 : decode cX12_isClosed 4 = .ok (.iconst 1, 1) := by decide +kernel
theorem dX12_isClosed_5 : decode cX12_isClosed 5 = .ok (.iaload, 1) := by decide +kernel
theorem dX12_isClosed_6 : decode cX12_isClosed 6 = .ok (.ifCond .le 14, 3) := by decide +kernel
theorem dX12_isClosed_9 : decode cX12_isClosed 9 = .ok (.aload_n 0, 1) := by decide +kernel
theorem dX12_isClosed_10 : decode cX12_isClosed 10 = .ok (.invokevirtual 115, 3) := by decide +kernel
theorem dX12_isClosed_13 : decode cX12_isClosed 13 = .ok (.ifCond .ne 7, 3) := by decide +kernel
theorem dX12_isClosed_16 : decode cX12_isClosed 16 = .ok (.iconst 1, 1) := by decide +kernel
theorem dX12_isClosed_17 : decode cX12_isClosed 17 = .ok (.goto 4, 3) := by decide +kernel
theorem dX12_isClosed_20 : decode cX12_isClosed 20 = .ok (.iconst 0, 1) := by decide +kernel
theorem dX12_isClosed_21 : decode cX12_isClosed 21 = .ok (.ireturn, 1) := by decide +kernel
theorem dX12_needNow_0 : decode cX12_needNow 0 = .ok (.aload_n 0, 1) := by decide +kernel
theorem dX12_needNow_1 : decode cX12_needNow 1 = .ok (.invokevirtual 119, 3) := by decide +kernel
theorem dX12_needNow_4 : decode cX12_needNow 4 = .ok (.ifCond .eq 12, 3) := by decide +kernel
theorem dX12_needNow_7 : decode cX12_needNow 7 = .ok (.aload_n 0, 1) := by decide +kernel
theorem dX12_needNow_8 : decode cX12_needNow 8 = .ok (.getfield 30, 3) := by decide +kernel
theorem dX12_needNow_11 : decode cX12_needNow 11 = .ok (.iconst 4, 1) := by decide +kernel
theorem dX12_needNow_12 : decode cX12_needNow 12 = .ok (.iaload, 1) := by decide +kernel
theorem dX12_needNow_13 : decode cX12_needNow 13 = .ok (.goto 8, 3) := by decide +kernel
theorem dX12_needNow_16 : decode cX12_needNow 16 = .ok (.aload_n 0, 1) := by decide +kernel
theorem dX12_needNow_17 : decode cX12_needNow 17 = .ok (.iconst 0, 1) := by decide +kernel
theorem dX12_needNow_18 : decode cX12_needNow 18 = .ok (.invokevirtual 122, 3) := by decide +kernel
theorem dX12_needNow_21 : decode cX12_needNow 21 = .ok (.ireturn, 1) := by decide +kernel
theorem dX12_resultNow_0 : decode cX12_resultNow 0 = .ok (.aload_n 0, 1) := by decide +kernel
theorem dX12_resultNow_1 : decode cX12_resultNow 1 = .ok (.aload_n 0, 1) := by decide +kernel
theorem dX12_resultNow_2 : decode cX12_resultNow 2 = .ok (.invokevirtual 125, 3) := by decide +kernel
theorem dX12_resultNow_5 : decode cX12_resultNow 5 = .ok (.iconst 0, 1) := by decide +kernel
theorem dX12_resultNow_6 : decode cX12_resultNow 6 = .ok (.iconst 0, 1) := by decide +kernel
theorem dX12_resultNow_7 : decode cX12_resultNow 7 = .ok (.bipush (-2), 2) := by decide +kernel
theorem dX12_resultNow_9 : decode cX12_resultNow 9 = .ok (.invokevirtual 128, 3) := by decide +kernel
theorem dX12_resultNow_12 : decode cX12_resultNow 12 = .ok (.ireturn, 1) := by decide +kernel
theorem dX12_isInTime_0 : decode cX12_isInTime 0 = .ok (.aload_n 0, 1) := by decide +kernel
theorem dX12_isInTime_1 : decode cX12_isInTime 1 = .ok (.invokevirtual 115, 3) := by decide +kernel
theorem dX12_isInTime_4 : decode cX12_isInTime 4 = .ok (.ifCond .ne 33, 3) := by decide +kernel
theorem dX12_isInTime_7 : decode cX12_isInTime 7 = .ok (.aload_n 0, 1) := by decide +kernel
theorem dX12_isInTime_8 : decode cX12_isInTime 8 = .ok (.invokevirtual 119, 3) := by decide +kernel
theorem dX12_isInTime_11 : decode cX12_isInTime 11 = .ok (.ifCond .eq 30, 3) := by decide +kernel
theorem dX12_isInTime_14 : decode cX12_isInTime 14 = .ok (.aload_n 0, 1) := by decide +kernel
theorem dX12_isInTime_15 : decode cX12_isInTime 15 = .ok (.getfield 30, 3) := by decide +kernel
theorem dX12_isInTime_18 : decode cX12_isInTime 18 = .ok (.iconst 0, 1) := by decide +kernel
theorem dX12_isInTime_19 : decode cX12_isInTime 19 = .ok (.iaload, 1) := by decide +kernel
theorem dX12_isInTime_20 : decode cX12_isInTime 20 = .ok (.aload_n 0, 1) := by decide +kernel
theorem dX12_isInTime_21 : decode cX12_isInTime 21 = .ok (.getfield 30, 3) := by decide +kernel
theorem dX12_isInTime_24 : decode cX12_isInTime 24 = .ok (.iconst 5, 1) := by decide +kernel
theorem dX12_isInTime_25 : decode cX12_isInTime 25 = .ok (.iaload, 1) := by decide +kernel
theorem dX12_isInTime_26 : decode cX12_isInTime 26 = .ok (.isub, 1) := by decide +kernel
theorem dX12_isInTime_27 : decode cX12_isInTime 27 = .ok (.aload_n 0, 1) := by decide +kernel
theorem dX12_isInTime_28 : decode cX12_isInTime 28 = .ok (.getfield 17, 3) := by decide +kernel
theorem dX12_isInTime_31 : decode cX12_isInTime 31 = .ok (.bipush 8, 2) := by decide +kernel
theorem dX12_isInTime_33 : decode cX12_isInTime 33 = .ok (.iaload, 1) := by decide +kernel
theorem dX12_isInTime_34 : decode cX12_isInTime 34 = .ok (.if_icmp .gt 7, 3) := by decide +kernel
theorem dX12_isInTime_37 : decode cX12_isInTime 37 = .ok (.iconst 1, 1) := by decide +kernel
theorem dX12_isInTime_38 : decode cX12_isInTime 38 = .ok (.goto 4, 3) := by decide +kernel
theorem dX12_isInTime_41 : decode cX12_isInTime 41 = .ok (.iconst 0, 1) := by decide +kernel
theorem dX12_isInTime_42 : decode cX12_isInTime 42 = .ok (.ireturn, 1) := by decide +kernel
theorem dX12_keepsPast_0 : decode cX12_keepsPast 0 = .ok (.sipush 247, 3) := by decide +kernel
theorem dX12_keepsPast_3 : decode cX12_keepsPast 3 = .ok (.iconst 4, 1) := by decide +kernel
theorem dX12_keepsPast_4 : decode cX12_keepsPast 4 = .ok (.aload_n 0, 1) := by decide +kernel
theorem dX12_keepsPast_5 : decode cX12_keepsPast 5 = .ok (.getfield 30, 3) := by decide +kernel
theorem dX12_keepsPast_8 : decode cX12_keepsPast 8 = .ok (.iconst 1, 1) := by decide +kernel
theorem dX12_keepsPast_9 : decode cX12_keepsPast 9 = .ok (.iaload, 1) := by decide +kernel
theorem dX12_keepsPast_10 : decode cX12_keepsPast 10 = .ok (.iconst 1, 1) := by decide +kernel
theorem dX12_keepsPast_11 : decode cX12_keepsPast 11 = .ok (.isub, 1) := by decide +kernel
theorem dX12_keepsPast_12 : decode cX12_keepsPast 12 = .ok (.bipush 8, 2) := by decide +kernel
theorem dX12_keepsPast_14 : decode cX12_keepsPast 14 = .ok (.irem, 1) := by decide +kernel
theorem dX12_keepsPast_15 : decode cX12_keepsPast 15 = .ok (.imul, 1) := by decide +kernel
theorem dX12_keepsPast_16 : decode cX12_keepsPast 16 = .ok (.iadd, 1) := by decide +kernel
theorem dX12_keepsPast_17 : decode cX12_keepsPast 17 = .ok (.istore_n 1, 1) := by decide +kernel
theorem dX12_keepsPast_18 : decode cX12_keepsPast 18 = .ok (.aload_n 0, 1) := by decide +kernel
theorem dX12_keepsPast_19 : decode cX12_keepsPast 19 = .ok (.getfield 30, 3) := by decide +kernel
theorem dX12_keepsPast_22 : decode cX12_keepsPast 22 = .ok (.iload_n 1, 1) := by decide +kernel
theorem dX12_keepsPast_23 : decode cX12_keepsPast 23 = .ok (.aload_n 0, 1) := by decide +kernel
theorem dX12_keepsPast_24 : decode cX12_keepsPast 24 = .ok (.getfield 30, 3) := by decide +kernel
theorem dX12_keepsPast_27 : decode cX12_keepsPast 27 = .ok (.iconst 5, 1) := by decide +kernel
theorem dX12_keepsPast_28 : decode cX12_keepsPast 28 = .ok (.iaload, 1) := by decide +kernel
theorem dX12_keepsPast_29 : decode cX12_keepsPast 29 = .ok (.iastore, 1) := by decide +kernel
theorem dX12_keepsPast_30 : decode cX12_keepsPast 30 = .ok (.aload_n 0, 1) := by decide +kernel
theorem dX12_keepsPast_31 : decode cX12_keepsPast 31 = .ok (.getfield 30, 3) := by decide +kernel
theorem dX12_keepsPast_34 : decode cX12_keepsPast 34 = .ok (.iload_n 1, 1) := by decide +kernel
theorem dX12_keepsPast_35 : decode cX12_keepsPast 35 = .ok (.iconst 1, 1) := by decide +kernel
theorem dX12_keepsPast_36 : decode cX12_keepsPast 36 = .ok (.iadd, 1) := by decide +kernel
theorem dX12_keepsPast_37 : decode cX12_keepsPast 37 = .ok (.aload_n 0, 1) := by decide +kernel
theorem dX12_keepsPast_38 : decode cX12_keepsPast 38 = .ok (.invokevirtual 132, 3) := by decide +kernel
theorem dX12_keepsPast_41 : decode cX12_keepsPast 41 = .ok (.iastore, 1) := by decide +kernel
theorem dX12_keepsPast_42 : decode cX12_keepsPast 42 = .ok (.aload_n 0, 1) := by decide +kernel
theorem dX12_keepsPast_43 : decode cX12_keepsPast 43 = .ok (.getfield 30, 3) := by decide +kernel
theorem dX12_keepsPast_46 : decode cX12_keepsPast 46 = .ok (.iload_n 1, 1) := by decide +kernel
theorem dX12_keepsPast_47 : decode cX12_keepsPast 47 = .ok (.iconst 2, 1) := by decide +kernel
theorem dX12_keepsPast_48 : decode cX12_keepsPast 48 = .ok (.iadd, 1) := by decide +kernel
theorem dX12_keepsPast_49 : decode cX12_keepsPast 49 = .ok (.aload_n 0, 1) := by decide +kernel
theorem dX12_keepsPast_50 : decode cX12_keepsPast 50 = .ok (.getfield 30, 3) := by decide +kernel
theorem dX12_keepsPast_53 : decode cX12_keepsPast 53 = .ok (.iconst 4, 1) := by decide +kernel
theorem dX12_keepsPast_54 : decode cX12_keepsPast 54 = .ok (.iaload, 1) := by decide +kernel
theorem dX12_keepsPast_55 : decode cX12_keepsPast 55 = .ok (.iastore, 1) := by decide +kernel
theorem dX12_keepsPast_56 : decode cX12_keepsPast 56 = .ok (.aload_n 0, 1) := by decide +kernel
theorem dX12_keepsPast_57 : decode cX12_keepsPast 57 = .ok (.getfield 30, 3) := by decide +kernel
theorem dX12_keepsPast_60 : decode cX12_keepsPast 60 = .ok (.iload_n 1, 1) := by decide +kernel
theorem dX12_keepsPast_61 : decode cX12_keepsPast 61 = .ok (.iconst 3, 1) := by decide +kernel
theorem dX12_keepsPast_62 : decode cX12_keepsPast 62 = .ok (.iadd, 1) := by decide +kernel
theorem dX12_keepsPast_63 : decode cX12_keepsPast 63 = .ok (.aload_n 0, 1) := by decide +kernel
theorem dX12_keepsPast_64 : decode cX12_keepsPast 64 = .ok (.invokevirtual 135, 3) := by decide +kernel
theorem dX12_keepsPast_67 : decode cX12_keepsPast 67 = .ok (.iastore, 1) := by decide +kernel
theorem dX12_keepsPast_68 : decode cX12_keepsPast 68 = .ok (.return_, 1) := by decide +kernel
theorem dX12_orMinus_0 : decode cX12_orMinus 0 = .ok (.iload_n 0, 1) := by decide +kernel
theorem dX12_orMinus_1 : decode cX12_orMinus 1 = .ok (.ifCond .ge 7, 3) := by decide +kernel
theorem dX12_orMinus_4 : decode cX12_orMinus 4 = .ok (.iconst (-1), 1) := by decide +kernel
theorem dX12_orMinus_5 : decode cX12_orMinus 5 = .ok (.goto 4, 3) := by decide +kernel
theorem dX12_orMinus_8 : decode cX12_orMinus 8 = .ok (.iload_n 0, 1) := by decide +kernel
theorem dX12_orMinus_9 : decode cX12_orMinus 9 = .ok (.ireturn, 1) := by decide +kernel
theorem dX12_strikes_0 : decode cX12_strikes 0 = .ok (.aload_n 0, 1) := by decide +kernel
theorem dX12_strikes_1 : decode cX12_strikes 1 = .ok (.invokevirtual 135, 3) := by decide +kernel
theorem dX12_strikes_4 : decode cX12_strikes 4 = .ok (.istore_n 2, 1) := by decide +kernel
theorem dX12_strikes_5 : decode cX12_strikes 5 = .ok (.iconst 0, 1) := by decide +kernel
theorem dX12_strikes_6 : decode cX12_strikes 6 = .ok (.istore_n 3, 1) := by decide +kernel
theorem dX12_strikes_7 : decode cX12_strikes 7 = .ok (.iload_n 3, 1) := by decide +kernel
theorem dX12_strikes_8 : decode cX12_strikes 8 = .ok (.aload_n 0, 1) := by decide +kernel
theorem dX12_strikes_9 : decode cX12_strikes 9 = .ok (.getfield 55, 3) := by decide +kernel
theorem dX12_strikes_12 : decode cX12_strikes 12 = .ok (.if_icmp .ge 38, 3) := by decide +kernel
theorem dX12_strikes_15 : decode cX12_strikes 15 = .ok (.iload_n 1, 1) := by decide +kernel
theorem dX12_strikes_16 : decode cX12_strikes 16 = .ok (.iload_n 3, 1) := by decide +kernel
theorem dX12_strikes_17 : decode cX12_strikes 17 = .ok (.ishr, 1) := by decide +kernel
theorem dX12_strikes_18 : decode cX12_strikes 18 = .ok (.iconst 1, 1) := by decide +kernel
theorem dX12_strikes_19 : decode cX12_strikes 19 = .ok (.iand, 1) := by decide +kernel
theorem dX12_strikes_20 : decode cX12_strikes 20 = .ok (.iconst 1, 1) := by decide +kernel
theorem dX12_strikes_21 : decode cX12_strikes 21 = .ok (.if_icmp .ne 23, 3) := by decide +kernel
theorem dX12_strikes_24 : decode cX12_strikes 24 = .ok (.aload_n 0, 1) := by decide +kernel
theorem dX12_strikes_25 : decode cX12_strikes 25 = .ok (.iload_n 3, 1) := by decide +kernel
theorem dX12_strikes_26 : decode cX12_strikes 26 = .ok (.iconst 5, 1) := by decide +kernel
theorem dX12_strikes_27 : decode cX12_strikes 27 = .ok (.iconst 3, 1) := by decide +kernel
theorem dX12_strikes_28 : decode cX12_strikes 28 = .ok (.invokevirtual 61, 3) := by decide +kernel
theorem dX12_strikes_31 : decode cX12_strikes 31 = .ok (.aload_n 0, 1) := by decide +kernel
theorem dX12_strikes_32 : decode cX12_strikes 32 = .ok (.iconst 4, 1) := by decide +kernel
theorem dX12_strikes_33 : decode cX12_strikes 33 = .ok (.iload_n 3, 1) := by decide +kernel
theorem dX12_strikes_34 : decode cX12_strikes 34 = .ok (.aload_n 0, 1) := by decide +kernel
theorem dX12_strikes_35 : decode cX12_strikes 35 = .ok (.iload_n 3, 1) := by decide +kernel
theorem dX12_strikes_36 : decode cX12_strikes 36 = .ok (.bipush 10, 2) := by decide +kernel
theorem dX12_strikes_38 : decode cX12_strikes 38 = .ok (.invokevirtual 81, 3) := by decide +kernel
theorem dX12_strikes_41 : decode cX12_strikes 41 = .ok (.invokevirtual 138, 3) := by decide +kernel
theorem dX12_strikes_44 : decode cX12_strikes 44 = .ok (.iinc 3 1, 3) := by decide +kernel
theorem dX12_strikes_47 : decode cX12_strikes 47 = .ok (.goto (-40), 3) := by decide +kernel
theorem dX12_strikes_50 : decode cX12_strikes 50 = .ok (.aload_n 0, 1) := by decide +kernel
theorem dX12_strikes_51 : decode cX12_strikes 51 = .ok (.invokevirtual 115, 3) := by decide +kernel
theorem dX12_strikes_54 : decode cX12_strikes 54 = .ok (.ifCond .eq 4, 3) := by decide +kernel
theorem dX12_strikes_57 : decode cX12_strikes 57 = .ok (.return_, 1) := by decide +kernel
theorem dX12_strikes_58 : decode cX12_strikes 58 = .ok (.aload_n 0, 1) := by decide +kernel
theorem dX12_strikes_59 : decode cX12_strikes 59 = .ok (.invokevirtual 141, 3) := by decide +kernel
theorem dX12_strikes_62 : decode cX12_strikes 62 = .ok (.aload_n 0, 1) := by decide +kernel
theorem dX12_strikes_63 : decode cX12_strikes 63 = .ok (.invokevirtual 135, 3) := by decide +kernel
theorem dX12_strikes_66 : decode cX12_strikes 66 = .ok (.iload_n 2, 1) := by decide +kernel
theorem dX12_strikes_67 : decode cX12_strikes 67 = .ok (.if_icmp .eq 24, 3) := by decide +kernel
theorem dX12_strikes_70 : decode cX12_strikes 70 = .ok (.aload_n 0, 1) := by decide +kernel
theorem dX12_strikes_71 : decode cX12_strikes 71 = .ok (.bipush 7, 2) := by decide +kernel
theorem dX12_strikes_73 : decode cX12_strikes 73 = .ok (.aload_n 0, 1) := by decide +kernel
theorem dX12_strikes_74 : decode cX12_strikes 74 = .ok (.getfield 30, 3) := by decide +kernel
theorem dX12_strikes_77 : decode cX12_strikes 77 = .ok (.iconst 1, 1) := by decide +kernel
theorem dX12_strikes_78 : decode cX12_strikes 78 = .ok (.iaload, 1) := by decide +kernel
theorem dX12_strikes_79 : decode cX12_strikes 79 = .ok (.iconst 1, 1) := by decide +kernel
theorem dX12_strikes_80 : decode cX12_strikes 80 = .ok (.isub, 1) := by decide +kernel
theorem dX12_strikes_81 : decode cX12_strikes 81 = .ok (.aload_n 0, 1) := by decide +kernel
theorem dX12_strikes_82 : decode cX12_strikes 82 = .ok (.invokevirtual 135, 3) := by decide +kernel
theorem dX12_strikes_85 : decode cX12_strikes 85 = .ok (.invokestatic 144, 3) := by decide +kernel
theorem dX12_strikes_88 : decode cX12_strikes 88 = .ok (.invokevirtual 138, 3) := by decide +kernel
theorem dX12_strikes_91 : decode cX12_strikes 91 = .ok (.return_, 1) := by decide +kernel
theorem dX12_comesHome_0 : decode cX12_comesHome 0 = .ok (.iconst 0, 1) := by decide +kernel
theorem dX12_comesHome_1 : decode cX12_comesHome 1 = .ok (.istore_n 2, 1) := by decide +kernel
theorem dX12_comesHome_2 : decode cX12_comesHome 2 = .ok (.iconst 0, 1) := by decide +kernel
theorem dX12_comesHome_3 : decode cX12_comesHome 3 = .ok (.istore_n 3, 1) := by decide +kernel
theorem dX12_comesHome_4 : decode cX12_comesHome 4 = .ok (.iload_n 3, 1) := by decide +kernel
theorem dX12_comesHome_5 : decode cX12_comesHome 5 = .ok (.aload_n 0, 1) := by decide +kernel
theorem dX12_comesHome_6 : decode cX12_comesHome 6 = .ok (.getfield 55, 3) := by decide +kernel
theorem dX12_comesHome_9 : decode cX12_comesHome 9 = .ok (.if_icmp .ge 30, 3) := by decide +kernel
theorem dX12_comesHome_12 : decode cX12_comesHome 12 = .ok (.aload_n 0, 1) := by decide +kernel
theorem dX12_comesHome_13 : decode cX12_comesHome 13 = .ok (.iload_n 3, 1) := by decide +kernel
theorem dX12_comesHome_14 : decode cX12_comesHome 14 = .ok (.iconst 1, 1) := by decide +kernel
theorem dX12_comesHome_15 : decode cX12_comesHome 15 = .ok (.invokevirtual 81, 3) := by decide +kernel
theorem dX12_comesHome_18 : decode cX12_comesHome 18 = .ok (.iload_n 1, 1) := by decide +kernel
theorem dX12_comesHome_19 : decode cX12_comesHome 19 = .ok (.if_icmp .ne 14, 3) := by decide +kernel
theorem dX12_comesHome_22 : decode cX12_comesHome 22 = .ok (.aload_n 0, 1) := by decide +kernel
theorem dX12_comesHome_23 : decode cX12_comesHome 23 = .ok (.iload_n 3, 1) := by decide +kernel
theorem dX12_comesHome_24 : decode cX12_comesHome 24 = .ok (.iconst 1, 1) := by decide +kernel
theorem dX12_comesHome_25 : decode cX12_comesHome 25 = .ok (.bipush (-2), 2) := by decide +kernel
theorem dX12_comesHome_27 : decode cX12_comesHome 27 = .ok (.invokevirtual 61, 3) := by decide +kernel
theorem dX12_comesHome_30 : decode cX12_comesHome 30 = .ok (.iinc 2 1, 3) := by decide +kernel
theorem dX12_comesHome_33 : decode cX12_comesHome 33 = .ok (.iinc 3 1, 3) := by decide +kernel
theorem dX12_comesHome_36 : decode cX12_comesHome 36 = .ok (.goto (-32), 3) := by decide +kernel
theorem dX12_comesHome_39 : decode cX12_comesHome 39 = .ok (.aload_n 0, 1) := by decide +kernel
theorem dX12_comesHome_40 : decode cX12_comesHome 40 = .ok (.iload_n 1, 1) := by decide +kernel
theorem dX12_comesHome_41 : decode cX12_comesHome 41 = .ok (.iconst 0, 1) := by decide +kernel
theorem dX12_comesHome_42 : decode cX12_comesHome 42 = .ok (.iconst 0, 1) := by decide +kernel
theorem dX12_comesHome_43 : decode cX12_comesHome 43 = .ok (.invokevirtual 147, 3) := by decide +kernel
theorem dX12_comesHome_46 : decode cX12_comesHome 46 = .ok (.aload_n 0, 1) := by decide +kernel
theorem dX12_comesHome_47 : decode cX12_comesHome 47 = .ok (.iconst 1, 1) := by decide +kernel
theorem dX12_comesHome_48 : decode cX12_comesHome 48 = .ok (.iload_n 1, 1) := by decide +kernel
theorem dX12_comesHome_49 : decode cX12_comesHome 49 = .ok (.iload_n 2, 1) := by decide +kernel
theorem dX12_comesHome_50 : decode cX12_comesHome 50 = .ok (.invokevirtual 138, 3) := by decide +kernel
theorem dX12_comesHome_53 : decode cX12_comesHome 53 = .ok (.iload_n 2, 1) := by decide +kernel
theorem dX12_comesHome_54 : decode cX12_comesHome 54 = .ok (.ireturn, 1) := by decide +kernel
theorem dX12_passes_0 : decode cX12_passes 0 = .ok (.aload_n 0, 1) := by decide +kernel
theorem dX12_passes_1 : decode cX12_passes 1 = .ok (.getfield 30, 3) := by decide +kernel
theorem dX12_passes_4 : decode cX12_passes 4 = .ok (.iconst 0, 1) := by decide +kernel
theorem dX12_passes_5 : decode cX12_passes 5 = .ok (.dup2, 1) := by decide +kernel
theorem dX12_passes_6 : decode cX12_passes 6 = .ok (.iaload, 1) := by decide +kernel
theorem dX12_passes_7 : decode cX12_passes 7 = .ok (.iconst 1, 1) := by decide +kernel
theorem dX12_passes_8 : decode cX12_passes 8 = .ok (.iadd, 1) := by decide +kernel
theorem dX12_passes_9 : decode cX12_passes 9 = .ok (.iastore, 1) := by decide +kernel
theorem dX12_passes_10 : decode cX12_passes 10 = .ok (.iconst 0, 1) := by decide +kernel
theorem dX12_passes_11 : decode cX12_passes 11 = .ok (.istore_n 1, 1) := by decide +kernel
theorem dX12_passes_12 : decode cX12_passes 12 = .ok (.iload_n 1, 1) := by decide +kernel
theorem dX12_passes_13 : decode cX12_passes 13 = .ok (.aload_n 0, 1) := by decide +kernel
theorem dX12_passes_14 : decode cX12_passes 14 = .ok (.getfield 55, 3) := by decide +kernel
theorem dX12_passes_17 : decode cX12_passes 17 = .ok (.if_icmp .ge 35, 3) := by decide +kernel
theorem dX12_passes_20 : decode cX12_passes 20 = .ok (.aload_n 0, 1) := by decide +kernel
theorem dX12_passes_21 : decode cX12_passes 21 = .ok (.iload_n 1, 1) := by decide +kernel
theorem dX12_passes_22 : decode cX12_passes 22 = .ok (.iconst 3, 1) := by decide +kernel
theorem dX12_passes_23 : decode cX12_passes 23 = .ok (.aload_n 0, 1) := by decide +kernel
theorem dX12_passes_24 : decode cX12_passes 24 = .ok (.iload_n 1, 1) := by decide +kernel
theorem dX12_passes_25 : decode cX12_passes 25 = .ok (.iconst 3, 1) := by decide +kernel
theorem dX12_passes_26 : decode cX12_passes 26 = .ok (.invokevirtual 81, 3) := by decide +kernel
theorem dX12_passes_29 : decode cX12_passes 29 = .ok (.aload_n 0, 1) := by decide +kernel
theorem dX12_passes_30 : decode cX12_passes 30 = .ok (.iload_n 1, 1) := by decide +kernel
theorem dX12_passes_31 : decode cX12_passes 31 = .ok (.invokevirtual 91, 3) := by decide +kernel
theorem dX12_passes_34 : decode cX12_passes 34 = .ok (.ifCond .eq 7, 3) := by decide +kernel
theorem dX12_passes_37 : decode cX12_passes 37 = .ok (.iconst 1, 1) := by decide +kernel
theorem dX12_passes_38 : decode cX12_passes 38 = .ok (.goto 4, 3) := by decide +kernel
theorem dX12_passes_41 : decode cX12_passes 41 = .ok (.iconst 0, 1) := by decide +kernel
theorem dX12_passes_42 : decode cX12_passes 42 = .ok (.iadd, 1) := by decide +kernel
theorem dX12_passes_43 : decode cX12_passes 43 = .ok (.invokevirtual 61, 3) := by decide +kernel
theorem dX12_passes_46 : decode cX12_passes 46 = .ok (.iinc 1 1, 3) := by decide +kernel
theorem dX12_passes_49 : decode cX12_passes 49 = .ok (.goto (-37), 3) := by decide +kernel
theorem dX12_passes_52 : decode cX12_passes 52 = .ok (.iconst 0, 1) := by decide +kernel
theorem dX12_passes_53 : decode cX12_passes 53 = .ok (.istore_n 1, 1) := by decide +kernel
theorem dX12_passes_54 : decode cX12_passes 54 = .ok (.iconst 0, 1) := by decide +kernel
theorem dX12_passes_55 : decode cX12_passes 55 = .ok (.istore_n 2, 1) := by decide +kernel
theorem dX12_passes_56 : decode cX12_passes 56 = .ok (.iload_n 2, 1) := by decide +kernel
theorem dX12_passes_57 : decode cX12_passes 57 = .ok (.aload_n 0, 1) := by decide +kernel
theorem dX12_passes_58 : decode cX12_passes 58 = .ok (.getfield 76, 3) := by decide +kernel
theorem dX12_passes_61 : decode cX12_passes 61 = .ok (.if_icmp .ge 44, 3) := by decide +kernel
theorem dX12_passes_64 : decode cX12_passes 64 = .ok (.iload_n 1, 1) := by decide +kernel
theorem dX12_passes_65 : decode cX12_passes 65 = .ok (.aload_n 0, 1) := by decide +kernel
theorem dX12_passes_66 : decode cX12_passes 66 = .ok (.iload_n 2, 1) := by decide +kernel
theorem dX12_passes_67 : decode cX12_passes 67 = .ok (.invokevirtual 106, 3) := by decide +kernel
theorem dX12_passes_70 : decode cX12_passes 70 = .ok (.ifCond .eq 26, 3) := by decide +kernel
theorem dX12_passes_73 : decode cX12_passes 73 = .ok (.aload_n 0, 1) := by decide +kernel
theorem dX12_passes_74 : decode cX12_passes 74 = .ok (.iload_n 2, 1) := by decide +kernel
theorem dX12_passes_75 : decode cX12_passes 75 = .ok (.iconst 1, 1) := by decide +kernel
theorem dX12_passes_76 : decode cX12_passes 76 = .ok (.invokevirtual 85, 3) := by decide +kernel
theorem dX12_passes_79 : decode cX12_passes 79 = .ok (.aload_n 0, 1) := by decide +kernel
theorem dX12_passes_80 : decode cX12_passes 80 = .ok (.getfield 30, 3) := by decide +kernel
theorem dX12_passes_83 : decode cX12_passes 83 = .ok (.iconst 0, 1) := by decide +kernel
theorem dX12_passes_84 : decode cX12_passes 84 = .ok (.iaload, 1) := by decide +kernel
theorem dX12_passes_85 : decode cX12_passes 85 = .ok (.if_icmp .ne 11, 3) := by decide +kernel
theorem dX12_passes_88 : decode cX12_passes 88 = .ok (.aload_n 0, 1) := by decide +kernel
theorem dX12_passes_89 : decode cX12_passes 89 = .ok (.iload_n 2, 1) := by decide +kernel
theorem dX12_passes_90 : decode cX12_passes 90 = .ok (.invokevirtual 150, 3) := by decide +kernel
theorem dX12_passes_93 : decode cX12_passes 93 = .ok (.goto 4, 3) := by decide +kernel
theorem dX12_passes_96 : decode cX12_passes 96 = .ok (.iconst 0, 1) := by decide +kernel
theorem dX12_passes_97 : decode cX12_passes 97 = .ok (.iadd, 1) := by decide +kernel
theorem dX12_passes_98 : decode cX12_passes 98 = .ok (.istore_n 1, 1) := by decide +kernel
theorem dX12_passes_99 : decode cX12_passes 99 = .ok (.iinc 2 1, 3) := by decide +kernel
theorem dX12_passes_102 : decode cX12_passes 102 = .ok (.goto (-46), 3) := by decide +kernel
theorem dX12_passes_105 : decode cX12_passes 105 = .ok (.iload_n 1, 1) := by decide +kernel
theorem dX12_passes_106 : decode cX12_passes 106 = .ok (.ireturn, 1) := by decide +kernel
theorem dX12_isByte_0 : decode cX12_isByte 0 = .ok (.aload_n 0, 1) := by decide +kernel
theorem dX12_isByte_1 : decode cX12_isByte 1 = .ok (.getfield 153, 3) := by decide +kernel
theorem dX12_isByte_4 : decode cX12_isByte 4 = .ok (.aload_n 0, 1) := by decide +kernel
theorem dX12_isByte_5 : decode cX12_isByte 5 = .ok (.getfield 156, 3) := by decide +kernel
theorem dX12_isByte_8 : decode cX12_isByte 8 = .ok (.if_icmp .ge 33, 3) := by decide +kernel
theorem dX12_isByte_11 : decode cX12_isByte 11 = .ok (.aload_n 0, 1) := by decide +kernel
theorem dX12_isByte_12 : decode cX12_isByte 12 = .ok (.getfield 7, 3) := by decide +kernel
theorem dX12_isByte_15 : decode cX12_isByte 15 = .ok (.aload_n 0, 1) := by decide +kernel
theorem dX12_isByte_16 : decode cX12_isByte 16 = .ok (.getfield 153, 3) := by decide +kernel
theorem dX12_isByte_19 : decode cX12_isByte 19 = .ok (.baload, 1) := by decide +kernel
theorem dX12_isByte_20 : decode cX12_isByte 20 = .ok (.iload_n 1, 1) := by decide +kernel
theorem dX12_isByte_21 : decode cX12_isByte 21 = .ok (.if_icmp .lt 20, 3) := by decide +kernel
theorem dX12_isByte_24 : decode cX12_isByte 24 = .ok (.aload_n 0, 1) := by decide +kernel
theorem dX12_isByte_25 : decode cX12_isByte 25 = .ok (.getfield 7, 3) := by decide +kernel
theorem dX12_isByte_28 : decode cX12_isByte 28 = .ok (.aload_n 0, 1) := by decide +kernel
theorem dX12_isByte_29 : decode cX12_isByte 29 = .ok (.getfield 153, 3) := by decide +kernel
theorem dX12_isByte_32 : decode cX12_isByte 32 = .ok (.baload, 1) := by decide +kernel
theorem dX12_isByte_33 : decode cX12_isByte 33 = .ok (.iload_n 2, 1) := by decide +kernel
theorem dX12_isByte_34 : decode cX12_isByte 34 = .ok (.if_icmp .gt 7, 3) := by decide +kernel
theorem dX12_isByte_37 : decode cX12_isByte 37 = .ok (.iconst 1, 1) := by decide +kernel
theorem dX12_isByte_38 : decode cX12_isByte 38 = .ok (.goto 4, 3) := by decide +kernel
theorem dX12_isByte_41 : decode cX12_isByte 41 = .ok (.iconst 0, 1) := by decide +kernel
theorem dX12_isByte_42 : decode cX12_isByte 42 = .ok (.ireturn, 1) := by decide +kernel
theorem dX12_isKey_0 : decode cX12_isKey 0 = .ok (.lload_n 0, 1) := by decide +kernel
theorem dX12_isKey_1 : decode cX12_isKey 1 = .ok (.ldc2_w 159, 3) := by decide +kernel
theorem dX12_isKey_4 : decode cX12_isKey 4 = .ok (.lcmp, 1) := by decide +kernel
theorem dX12_isKey_5 : decode cX12_isKey 5 = .ok (.ifCond .eq 75, 3) := by decide +kernel
theorem dX12_isKey_8 : decode cX12_isKey 8 = .ok (.lload_n 0, 1) := by decide +kernel
theorem dX12_isKey_9 : decode cX12_isKey 9 = .ok (.ldc2_w 161, 3) := by decide +kernel
theorem dX12_isKey_12 : decode cX12_isKey 12 = .ok (.lcmp, 1) := by decide +kernel
theorem dX12_isKey_13 : decode cX12_isKey 13 = .ok (.ifCond .eq 67, 3) := by decide +kernel
theorem dX12_isKey_16 : decode cX12_isKey 16 = .ok (.lload_n 0, 1) := by decide +kernel
theorem dX12_isKey_17 : decode cX12_isKey 17 = .ok (.ldc2_w 163, 3) := by decide +kernel
theorem dX12_isKey_20 : decode cX12_isKey 20 = .ok (.lcmp, 1) := by decide +kernel
theorem dX12_isKey_21 : decode cX12_isKey 21 = .ok (.ifCond .eq 59, 3) := by decide +kernel
theorem dX12_isKey_24 : decode cX12_isKey 24 = .ok (.lload_n 0, 1) := by decide +kernel
theorem dX12_isKey_25 : decode cX12_isKey 25 = .ok (.ldc2_w 165, 3) := by decide +kernel
theorem dX12_isKey_28 : decode cX12_isKey 28 = .ok (.lcmp, 1) := by decide +kernel
theorem dX12_isKey_29 : decode cX12_isKey 29 = .ok (.ifCond .eq 51, 3) := by decide +kernel
theorem dX12_isKey_32 : decode cX12_isKey 32 = .ok (.lload_n 0, 1) := by decide +kernel
theorem dX12_isKey_33 : decode cX12_isKey 33 = .ok (.ldc2_w 167, 3) := by decide +kernel
theorem dX12_isKey_36 : decode cX12_isKey 36 = .ok (.lcmp, 1) := by decide +kernel
theorem dX12_isKey_37 : decode cX12_isKey 37 = .ok (.ifCond .eq 43, 3) := by decide +kernel
theorem dX12_isKey_40 : decode cX12_isKey 40 = .ok (.lload_n 0, 1) := by decide +kernel
theorem dX12_isKey_41 : decode cX12_isKey 41 = .ok (.ldc2_w 169, 3) := by decide +kernel
theorem dX12_isKey_44 : decode cX12_isKey 44 = .ok (.lcmp, 1) := by decide +kernel
theorem dX12_isKey_45 : decode cX12_isKey 45 = .ok (.ifCond .eq 35, 3) := by decide +kernel
theorem dX12_isKey_48 : decode cX12_isKey 48 = .ok (.lload_n 0, 1) := by decide +kernel
theorem dX12_isKey_49 : decode cX12_isKey 49 = .ok (.ldc2_w 171, 3) := by decide +kernel
theorem dX12_isKey_52 : decode cX12_isKey 52 = .ok (.lcmp, 1) := by decide +kernel
theorem dX12_isKey_53 : decode cX12_isKey 53 = .ok (.ifCond .eq 27, 3) := by decide +kernel
theorem dX12_isKey_56 : decode cX12_isKey 56 = .ok (.lload_n 0, 1) := by decide +kernel
theorem dX12_isKey_57 : decode cX12_isKey 57 = .ok (.ldc2_w 173, 3) := by decide +kernel
theorem dX12_isKey_60 : decode cX12_isKey 60 = .ok (.lcmp, 1) := by decide +kernel
theorem dX12_isKey_61 : decode cX12_isKey 61 = .ok (.ifCond .eq 19, 3) := by decide +kernel
theorem dX12_isKey_64 : decode cX12_isKey 64 = .ok (.lload_n 0, 1) := by decide +kernel
theorem dX12_isKey_65 : decode cX12_isKey 65 = .ok (.ldc2_w 175, 3) := by decide +kernel
theorem dX12_isKey_68 : decode cX12_isKey 68 = .ok (.lcmp, 1) := by decide +kernel
theorem dX12_isKey_69 : decode cX12_isKey 69 = .ok (.ifCond .eq 11, 3) := by decide +kernel
theorem dX12_isKey_72 : decode cX12_isKey 72 = .ok (.lload_n 0, 1) := by decide +kernel
theorem dX12_isKey_73 : decode cX12_isKey 73 = .ok (.ldc2_w 177, 3) := by decide +kernel
theorem dX12_isKey_76 : decode cX12_isKey 76 = .ok (.lcmp, 1) := by decide +kernel
theorem dX12_isKey_77 : decode cX12_isKey 77 = .ok (.ifCond .ne 7, 3) := by decide +kernel
theorem dX12_isKey_80 : decode cX12_isKey 80 = .ok (.iconst 1, 1) := by decide +kernel
theorem dX12_isKey_81 : decode cX12_isKey 81 = .ok (.goto 4, 3) := by decide +kernel
theorem dX12_isKey_84 : decode cX12_isKey 84 = .ok (.iconst 0, 1) := by decide +kernel
theorem dX12_isKey_85 : decode cX12_isKey 85 = .ok (.ireturn, 1) := by decide +kernel
theorem dX12_nextWord_0 : decode cX12_nextWord 0 = .ok (.aload_n 0, 1) := by decide +kernel
theorem dX12_nextWord_1 : decode cX12_nextWord 1 = .ok (.lconst 0, 1) := by decide +kernel
theorem dX12_nextWord_2 : decode cX12_nextWord 2 = .ok (.putfield 179, 3) := by decide +kernel
theorem dX12_nextWord_5 : decode cX12_nextWord 5 = .ok (.aload_n 0, 1) := by decide +kernel
theorem dX12_nextWord_6 : decode cX12_nextWord 6 = .ok (.iconst 0, 1) := by decide +kernel
theorem dX12_nextWord_7 : decode cX12_nextWord 7 = .ok (.putfield 183, 3) := by decide +kernel
theorem dX12_nextWord_10 : decode cX12_nextWord 10 = .ok (.aload_n 0, 1) := by decide +kernel
theorem dX12_nextWord_11 : decode cX12_nextWord 11 = .ok (.bipush 97, 2) := by decide +kernel
theorem dX12_nextWord_13 : decode cX12_nextWord 13 = .ok (.bipush 122, 2) := by decide +kernel
theorem dX12_nextWord_15 : decode cX12_nextWord 15 = .ok (.invokevirtual 186, 3) := by decide +kernel
theorem dX12_nextWord_18 : decode cX12_nextWord 18 = .ok (.ifCond .eq 91, 3) := by decide +kernel
theorem dX12_nextWord_21 : decode cX12_nextWord 21 = .ok (.aload_n 0, 1) := by decide +kernel
theorem dX12_nextWord_22 : decode cX12_nextWord 22 = .ok (.getfield 153, 3) := by decide +kernel
theorem dX12_nextWord_25 : decode cX12_nextWord 25 = .ok (.aload_n 0, 1) := by decide +kernel
theorem dX12_nextWord_26 : decode cX12_nextWord 26 = .ok (.getfield 190, 3) := by decide +kernel
theorem dX12_nextWord_29 : decode cX12_nextWord 29 = .ok (.isub, 1) := by decide +kernel
theorem dX12_nextWord_30 : decode cX12_nextWord 30 = .ok (.istore_n 1, 1) := by decide +kernel
theorem dX12_nextWord_31 : decode cX12_nextWord 31 = .ok (.aload_n 0, 1) := by decide +kernel
theorem dX12_nextWord_32 : decode cX12_nextWord 32 = .ok (.getfield 7, 3) := by decide +kernel
theorem dX12_nextWord_35 : decode cX12_nextWord 35 = .ok (.aload_n 0, 1) := by decide +kernel
theorem dX12_nextWord_36 : decode cX12_nextWord 36 = .ok (.getfield 153, 3) := by decide +kernel
theorem dX12_nextWord_39 : decode cX12_nextWord 39 = .ok (.baload, 1) := by decide +kernel
theorem dX12_nextWord_40 : decode cX12_nextWord 40 = .ok (.bipush 96, 2) := by decide +kernel
theorem dX12_nextWord_42 : decode cX12_nextWord 42 = .ok (.isub, 1) := by decide +kernel
theorem dX12_nextWord_43 : decode cX12_nextWord 43 = .ok (.istore_n 2, 1) := by decide +kernel
theorem dX12_nextWord_44 : decode cX12_nextWord 44 = .ok (.aload_n 0, 1) := by decide +kernel
theorem dX12_nextWord_45 : decode cX12_nextWord 45 = .ok (.dup, 1) := by decide +kernel
theorem dX12_nextWord_46 : decode cX12_nextWord 46 = .ok (.getfield 183, 3) := by decide +kernel
theorem dX12_nextWord_49 : decode cX12_nextWord 49 = .ok (.iload_n 1, 1) := by decide +kernel
theorem dX12_nextWord_50 : decode cX12_nextWord 50 = .ok (.bipush 6, 2) := by decide +kernel
theorem dX12_nextWord_52 : decode cX12_nextWord 52 = .ok (.if_icmp .ge 14, 3) := by decide +kernel
theorem dX12_nextWord_55 : decode cX12_nextWord 55 = .ok (.iload_n 2, 1) := by decide +kernel
theorem dX12_nextWord_56 : decode cX12_nextWord 56 = .ok (.bipush 25, 2) := by decide +kernel
theorem dX12_nextWord_58 : decode cX12_nextWord 58 = .ok (.iconst 5, 1) := by decide +kernel
theorem dX12_nextWord_59 : decode cX12_nextWord 59 = .ok (.iload_n 1, 1) := by decide +kernel
theorem dX12_nextWord_60 : decode cX12_nextWord 60 = .ok (.imul, 1) := by decide +kernel
theorem dX12_nextWord_61 : decode cX12_nextWord 61 = .ok (.isub, 1) := by decide +kernel
theorem dX12_nextWord_62 : decode cX12_nextWord 62 = .ok (.ishl, 1) := by decide +kernel
theorem dX12_nextWord_63 : decode cX12_nextWord 63 = .ok (.goto 4, 3) := by decide +kernel
theorem dX12_nextWord_66 : decode cX12_nextWord 66 = .ok (.iconst 0, 1) := by decide +kernel
theorem dX12_nextWord_67 : decode cX12_nextWord 67 = .ok (.ior, 1) := by decide +kernel
theorem dX12_nextWord_68 : decode cX12_nextWord 68 = .ok (.putfield 183, 3) := by decide +kernel
theorem dX12_nextWord_71 : decode cX12_nextWord 71 = .ok (.aload_n 0, 1) := by decide +kernel
theorem dX12_nextWord_72 : decode cX12_nextWord 72 = .ok (.iload_n 1, 1) := by decide +kernel
theorem dX12_nextWord_73 : decode cX12_nextWord 73 = .ok (.bipush 8, 2) := by decide +kernel
theorem dX12_nextWord_75 : decode cX12_nextWord 75 = .ok (.if_icmp .ge 17, 3) := by decide +kernel
theorem dX12_nextWord_78 : decode cX12_nextWord 78 = .ok (.ldc2_w 193, 3) := by decide +kernel
theorem dX12_nextWord_81 : decode cX12_nextWord 81 = .ok (.aload_n 0, 1) := by decide +kernel
theorem dX12_nextWord_82 : decode cX12_nextWord 82 = .ok (.getfield 179, 3) := by decide +kernel
theorem dX12_nextWord_85 : decode cX12_nextWord 85 = .ok (.lmul, 1) := by decide +kernel
theorem dX12_nextWord_86 : decode cX12_nextWord 86 = .ok (.iload_n 2, 1) := by decide +kernel
theorem dX12_nextWord_87 : decode cX12_nextWord 87 = .ok (.i2l, 1) := by decide +kernel
theorem dX12_nextWord_88 : decode cX12_nextWord 88 = .ok (.ladd, 1) := by decide +kernel
theorem dX12_nextWord_89 : decode cX12_nextWord 89 = .ok (.goto 4, 3) := by decide +kernel
theorem dX12_nextWord_92 : decode cX12_nextWord 92 = .ok (.lconst 0, 1) := by decide +kernel
theorem dX12_nextWord_93 : decode cX12_nextWord 93 = .ok (.putfield 179, 3) := by decide +kernel
theorem dX12_nextWord_96 : decode cX12_nextWord 96 = .ok (.aload_n 0, 1) := by decide +kernel
theorem dX12_nextWord_97 : decode cX12_nextWord 97 = .ok (.dup, 1) := by decide +kernel
theorem dX12_nextWord_98 : decode cX12_nextWord 98 = .ok (.getfield 153, 3) := by decide +kernel
theorem dX12_nextWord_101 : decode cX12_nextWord 101 = .ok (.iconst 1, 1) := by decide +kernel
theorem dX12_nextWord_102 : decode cX12_nextWord 102 = .ok (.iadd, 1) := by decide +kernel
theorem dX12_nextWord_103 : decode cX12_nextWord 103 = .ok (.putfield 153, 3) := by decide +kernel
theorem dX12_nextWord_106 : decode cX12_nextWord 106 = .ok (.goto (-96), 3) := by decide +kernel
theorem dX12_nextWord_109 : decode cX12_nextWord 109 = .ok (.aload_n 0, 1) := by decide +kernel
theorem dX12_nextWord_110 : decode cX12_nextWord 110 = .ok (.aload_n 0, 1) := by decide +kernel
theorem dX12_nextWord_111 : decode cX12_nextWord 111 = .ok (.getfield 153, 3) := by decide +kernel
theorem dX12_nextWord_114 : decode cX12_nextWord 114 = .ok (.aload_n 0, 1) := by decide +kernel
theorem dX12_nextWord_115 : decode cX12_nextWord 115 = .ok (.getfield 190, 3) := by decide +kernel
theorem dX12_nextWord_118 : decode cX12_nextWord 118 = .ok (.isub, 1) := by decide +kernel
theorem dX12_nextWord_119 : decode cX12_nextWord 119 = .ok (.bipush 9, 2) := by decide +kernel
theorem dX12_nextWord_121 : decode cX12_nextWord 121 = .ok (.if_icmp .ge 17, 3) := by decide +kernel
theorem dX12_nextWord_124 : decode cX12_nextWord 124 = .ok (.aload_n 0, 1) := by decide +kernel
theorem dX12_nextWord_125 : decode cX12_nextWord 125 = .ok (.getfield 179, 3) := by decide +kernel
theorem dX12_nextWord_128 : decode cX12_nextWord 128 = .ok (.invokestatic 195, 3) := by decide +kernel
theorem dX12_nextWord_131 : decode cX12_nextWord 131 = .ok (.ifCond .eq 7, 3) := by decide +kernel
theorem dX12_nextWord_134 : decode cX12_nextWord 134 = .ok (.iconst 2, 1) := by decide +kernel
theorem dX12_nextWord_135 : decode cX12_nextWord 135 = .ok (.goto 22, 3) := by decide +kernel
theorem dX12_nextWord_138 : decode cX12_nextWord 138 = .ok (.aload_n 0, 1) := by decide +kernel
theorem dX12_nextWord_139 : decode cX12_nextWord 139 = .ok (.getfield 153, 3) := by decide +kernel
theorem dX12_nextWord_142 : decode cX12_nextWord 142 = .ok (.aload_n 0, 1) := by decide +kernel
theorem dX12_nextWord_143 : decode cX12_nextWord 143 = .ok (.getfield 190, 3) := by decide +kernel
theorem dX12_nextWord_146 : decode cX12_nextWord 146 = .ok (.isub, 1) := by decide +kernel
theorem dX12_nextWord_147 : decode cX12_nextWord 147 = .ok (.bipush 7, 2) := by decide +kernel
theorem dX12_nextWord_149 : decode cX12_nextWord 149 = .ok (.if_icmp .ge 7, 3) := by decide +kernel
theorem dX12_nextWord_152 : decode cX12_nextWord 152 = .ok (.iconst 1, 1) := by decide +kernel
theorem dX12_nextWord_153 : decode cX12_nextWord 153 = .ok (.goto 4, 3) := by decide +kernel
theorem dX12_nextWord_156 : decode cX12_nextWord 156 = .ok (.iconst 5, 1) := by decide +kernel
theorem dX12_nextWord_157 : decode cX12_nextWord 157 = .ok (.putfield 199, 3) := by decide +kernel
theorem dX12_nextWord_160 : decode cX12_nextWord 160 = .ok (.return_, 1) := by decide +kernel
theorem dX12_nextInt_0 : decode cX12_nextInt 0 = .ok (.aload_n 0, 1) := by decide +kernel
theorem dX12_nextInt_1 : decode cX12_nextInt 1 = .ok (.iconst 0, 1) := by decide +kernel
theorem dX12_nextInt_2 : decode cX12_nextInt 2 = .ok (.putfield 202, 3) := by decide +kernel
theorem dX12_nextInt_5 : decode cX12_nextInt 5 = .ok (.aload_n 0, 1) := by decide +kernel
theorem dX12_nextInt_6 : decode cX12_nextInt 6 = .ok (.bipush 48, 2) := by decide +kernel
theorem dX12_nextInt_8 : decode cX12_nextInt 8 = .ok (.bipush 57, 2) := by decide +kernel
theorem dX12_nextInt_10 : decode cX12_nextInt 10 = .ok (.invokevirtual 186, 3) := by decide +kernel
theorem dX12_nextInt_13 : decode cX12_nextInt 13 = .ok (.ifCond .eq 60, 3) := by decide +kernel
theorem dX12_nextInt_16 : decode cX12_nextInt 16 = .ok (.aload_n 0, 1) := by decide +kernel
theorem dX12_nextInt_17 : decode cX12_nextInt 17 = .ok (.aload_n 0, 1) := by decide +kernel
theorem dX12_nextInt_18 : decode cX12_nextInt 18 = .ok (.getfield 153, 3) := by decide +kernel
theorem dX12_nextInt_21 : decode cX12_nextInt 21 = .ok (.aload_n 0, 1) := by decide +kernel
theorem dX12_nextInt_22 : decode cX12_nextInt 22 = .ok (.getfield 190, 3) := by decide +kernel
theorem dX12_nextInt_25 : decode cX12_nextInt 25 = .ok (.isub, 1) := by decide +kernel
theorem dX12_nextInt_26 : decode cX12_nextInt 26 = .ok (.iconst 3, 1) := by decide +kernel
theorem dX12_nextInt_27 : decode cX12_nextInt 27 = .ok (.if_icmp .ge 26, 3) := by decide +kernel
theorem dX12_nextInt_30 : decode cX12_nextInt 30 = .ok (.bipush 10, 2) := by decide +kernel
theorem dX12_nextInt_32 : decode cX12_nextInt 32 = .ok (.aload_n 0, 1) := by decide +kernel
theorem dX12_nextInt_33 : decode cX12_nextInt 33 = .ok (.getfield 202, 3) := by decide +kernel
theorem dX12_nextInt_36 : decode cX12_nextInt 36 = .ok (.imul, 1) := by decide +kernel
theorem dX12_nextInt_37 : decode cX12_nextInt 37 = .ok (.aload_n 0, 1) := by decide +kernel
theorem dX12_nextInt_38 : decode cX12_nextInt 38 = .ok (.getfield 7, 3) := by decide +kernel
theorem dX12_nextInt_41 : decode cX12_nextInt 41 = .ok (.aload_n 0, 1) := by decide +kernel
theorem dX12_nextInt_42 : decode cX12_nextInt 42 = .ok (.getfield 153, 3) := by decide +kernel
theorem dX12_nextInt_45 : decode cX12_nextInt 45 = .ok (.baload, 1) := by decide +kernel
theorem dX12_nextInt_46 : decode cX12_nextInt 46 = .ok (.iadd, 1) := by decide +kernel
theorem dX12_nextInt_47 : decode cX12_nextInt 47 = .ok (.bipush 48, 2) := by decide +kernel
theorem dX12_nextInt_49 : decode cX12_nextInt 49 = .ok (.isub, 1) := by decide +kernel
theorem dX12_nextInt_50 : decode cX12_nextInt 50 = .ok (.goto 7, 3) := by decide +kernel
theorem dX12_nextInt_53 : decode cX12_nextInt 53 = .ok (.aload_n 0, 1) := by decide +kernel
theorem dX12_nextInt_54 : decode cX12_nextInt 54 = .ok (.getfield 202, 3) := by decide +kernel
theorem dX12_nextInt_57 : decode cX12_nextInt 57 = .ok (.putfield 202, 3) := by decide +kernel
theorem dX12_nextInt_60 : decode cX12_nextInt 60 = .ok (.aload_n 0, 1) := by decide +kernel
theorem dX12_nextInt_61 : decode cX12_nextInt 61 = .ok (.dup, 1) := by decide +kernel
theorem dX12_nextInt_62 : decode cX12_nextInt 62 = .ok (.getfield 153, 3) := by decide +kernel
theorem dX12_nextInt_65 : decode cX12_nextInt 65 = .ok (.iconst 1, 1) := by decide +kernel
theorem dX12_nextInt_66 : decode cX12_nextInt 66 = .ok (.iadd, 1) := by decide +kernel
theorem dX12_nextInt_67 : decode cX12_nextInt 67 = .ok (.putfield 153, 3) := by decide +kernel
theorem dX12_nextInt_70 : decode cX12_nextInt 70 = .ok (.goto (-65), 3) := by decide +kernel
theorem dX12_nextInt_73 : decode cX12_nextInt 73 = .ok (.aload_n 0, 1) := by decide +kernel
theorem dX12_nextInt_74 : decode cX12_nextInt 74 = .ok (.aload_n 0, 1) := by decide +kernel
theorem dX12_nextInt_75 : decode cX12_nextInt 75 = .ok (.getfield 153, 3) := by decide +kernel
theorem dX12_nextInt_78 : decode cX12_nextInt 78 = .ok (.aload_n 0, 1) := by decide +kernel
theorem dX12_nextInt_79 : decode cX12_nextInt 79 = .ok (.getfield 190, 3) := by decide +kernel
theorem dX12_nextInt_82 : decode cX12_nextInt 82 = .ok (.isub, 1) := by decide +kernel
theorem dX12_nextInt_83 : decode cX12_nextInt 83 = .ok (.iconst 4, 1) := by decide +kernel
theorem dX12_nextInt_84 : decode cX12_nextInt 84 = .ok (.if_icmp .ge 7, 3) := by decide +kernel
theorem dX12_nextInt_87 : decode cX12_nextInt 87 = .ok (.iconst 3, 1) := by decide +kernel
theorem dX12_nextInt_88 : decode cX12_nextInt 88 = .ok (.goto 4, 3) := by decide +kernel
theorem dX12_nextInt_91 : decode cX12_nextInt 91 = .ok (.iconst 5, 1) := by decide +kernel
theorem dX12_nextInt_92 : decode cX12_nextInt 92 = .ok (.putfield 199, 3) := by decide +kernel
theorem dX12_nextInt_95 : decode cX12_nextInt 95 = .ok (.return_, 1) := by decide +kernel
theorem dX12_next_0 : decode cX12_next 0 = .ok (.aload_n 0, 1) := by decide +kernel
theorem dX12_next_1 : decode cX12_next 1 = .ok (.getfield 153, 3) := by decide +kernel
theorem dX12_next_4 : decode cX12_next 4 = .ok (.aload_n 0, 1) := by decide +kernel
theorem dX12_next_5 : decode cX12_next 5 = .ok (.getfield 156, 3) := by decide +kernel
theorem dX12_next_8 : decode cX12_next 8 = .ok (.if_icmp .ge 44, 3) := by decide +kernel
theorem dX12_next_11 : decode cX12_next 11 = .ok (.aload_n 0, 1) := by decide +kernel
theorem dX12_next_12 : decode cX12_next 12 = .ok (.getfield 7, 3) := by decide +kernel
theorem dX12_next_15 : decode cX12_next 15 = .ok (.aload_n 0, 1) := by decide +kernel
theorem dX12_next_16 : decode cX12_next 16 = .ok (.getfield 153, 3) := by decide +kernel
theorem dX12_next_19 : decode cX12_next 19 = .ok (.baload, 1) := by decide +kernel
theorem dX12_next_20 : decode cX12_next 20 = .ok (.bipush 32, 2) := by decide +kernel
theorem dX12_next_22 : decode cX12_next 22 = .ok (.if_icmp .eq 17, 3) := by decide +kernel
theorem dX12_next_25 : decode cX12_next 25 = .ok (.aload_n 0, 1) := by decide +kernel
theorem dX12_next_26 : decode cX12_next 26 = .ok (.getfield 7, 3) := by decide +kernel
theorem dX12_next_29 : decode cX12_next 29 = .ok (.aload_n 0, 1) := by decide +kernel
theorem dX12_next_30 : decode cX12_next 30 = .ok (.getfield 153, 3) := by decide +kernel
theorem dX12_next_33 : decode cX12_next 33 = .ok (.baload, 1) := by decide +kernel
theorem dX12_next_34 : decode cX12_next 34 = .ok (.bipush 10, 2) := by decide +kernel
theorem dX12_next_36 : decode cX12_next 36 = .ok (.if_icmp .ne 16, 3) := by decide +kernel
theorem dX12_next_39 : decode cX12_next 39 = .ok (.aload_n 0, 1) := by decide +kernel
theorem dX12_next_40 : decode cX12_next 40 = .ok (.dup, 1) := by decide +kernel
theorem dX12_next_41 : decode cX12_next 41 = .ok (.getfield 153, 3) := by decide +kernel
theorem dX12_next_44 : decode cX12_next 44 = .ok (.iconst 1, 1) := by decide +kernel
theorem dX12_next_45 : decode cX12_next 45 = .ok (.iadd, 1) := by decide +kernel
theorem dX12_next_46 : decode cX12_next 46 = .ok (.putfield 153, 3) := by decide +kernel
theorem dX12_next_49 : decode cX12_next 49 = .ok (.goto (-49), 3) := by decide +kernel
theorem dX12_next_52 : decode cX12_next 52 = .ok (.aload_n 0, 1) := by decide +kernel
theorem dX12_next_53 : decode cX12_next 53 = .ok (.aload_n 0, 1) := by decide +kernel
theorem dX12_next_54 : decode cX12_next 54 = .ok (.getfield 153, 3) := by decide +kernel
theorem dX12_next_57 : decode cX12_next 57 = .ok (.putfield 190, 3) := by decide +kernel
theorem dX12_next_60 : decode cX12_next 60 = .ok (.aload_n 0, 1) := by decide +kernel
theorem dX12_next_61 : decode cX12_next 61 = .ok (.getfield 153, 3) := by decide +kernel
theorem dX12_next_64 : decode cX12_next 64 = .ok (.aload_n 0, 1) := by decide +kernel
theorem dX12_next_65 : decode cX12_next 65 = .ok (.getfield 156, 3) := by decide +kernel
theorem dX12_next_68 : decode cX12_next 68 = .ok (.if_icmp .ne 11, 3) := by decide +kernel
theorem dX12_next_71 : decode cX12_next 71 = .ok (.aload_n 0, 1) := by decide +kernel
theorem dX12_next_72 : decode cX12_next 72 = .ok (.iconst 0, 1) := by decide +kernel
theorem dX12_next_73 : decode cX12_next 73 = .ok (.putfield 199, 3) := by decide +kernel
theorem dX12_next_76 : decode cX12_next 76 = .ok (.goto 72, 3) := by decide +kernel
theorem dX12_next_79 : decode cX12_next 79 = .ok (.aload_n 0, 1) := by decide +kernel
theorem dX12_next_80 : decode cX12_next 80 = .ok (.bipush 97, 2) := by decide +kernel
theorem dX12_next_82 : decode cX12_next 82 = .ok (.bipush 122, 2) := by decide +kernel
theorem dX12_next_84 : decode cX12_next 84 = .ok (.invokevirtual 186, 3) := by decide +kernel
theorem dX12_next_87 : decode cX12_next 87 = .ok (.ifCond .eq 10, 3) := by decide +kernel
theorem dX12_next_90 : decode cX12_next 90 = .ok (.aload_n 0, 1) := by decide +kernel
theorem dX12_next_91 : decode cX12_next 91 = .ok (.invokevirtual 205, 3) := by decide +kernel
theorem dX12_next_94 : decode cX12_next 94 = .ok (.goto 54, 3) := by decide +kernel
theorem dX12_next_97 : decode cX12_next 97 = .ok (.aload_n 0, 1) := by decide +kernel
theorem dX12_next_98 : decode cX12_next 98 = .ok (.bipush 48, 2) := by decide +kernel
theorem dX12_next_100 : decode cX12_next 100 = .ok (.bipush 57, 2) := by decide +kernel
theorem dX12_next_102 : decode cX12_next 102 = .ok (.invokevirtual 186, 3) := by decide +kernel
theorem dX12_next_105 : decode cX12_next 105 = .ok (.ifCond .eq 10, 3) := by decide +kernel
theorem dX12_next_108 : decode cX12_next 108 = .ok (.aload_n 0, 1) := by decide +kernel
theorem dX12_next_109 : decode cX12_next 109 = .ok (.invokevirtual 208, 3) := by decide +kernel
theorem dX12_next_112 : decode cX12_next 112 = .ok (.goto 36, 3) := by decide +kernel
theorem dX12_next_115 : decode cX12_next 115 = .ok (.aload_n 0, 1) := by decide +kernel
theorem dX12_next_116 : decode cX12_next 116 = .ok (.aload_n 0, 1) := by decide +kernel
theorem dX12_next_117 : decode cX12_next 117 = .ok (.getfield 7, 3) := by decide +kernel
theorem dX12_next_120 : decode cX12_next 120 = .ok (.aload_n 0, 1) := by decide +kernel
theorem dX12_next_121 : decode cX12_next 121 = .ok (.getfield 153, 3) := by decide +kernel
theorem dX12_next_124 : decode cX12_next 124 = .ok (.baload, 1) := by decide +kernel
theorem dX12_next_125 : decode cX12_next 125 = .ok (.bipush 59, 2) := by decide +kernel
theorem dX12_next_127 : decode cX12_next 127 = .ok (.if_icmp .ne 7, 3) := by decide +kernel
theorem dX12_next_130 : decode cX12_next 130 = .ok (.iconst 4, 1) := by decide +kernel
theorem dX12_next_131 : decode cX12_next 131 = .ok (.goto 4, 3) := by decide +kernel
theorem dX12_next_134 : decode cX12_next 134 = .ok (.iconst 5, 1) := by decide +kernel
theorem dX12_next_135 : decode cX12_next 135 = .ok (.putfield 199, 3) := by decide +kernel
theorem dX12_next_138 : decode cX12_next 138 = .ok (.aload_n 0, 1) := by decide +kernel
theorem dX12_next_139 : decode cX12_next 139 = .ok (.dup, 1) := by decide +kernel
theorem dX12_next_140 : decode cX12_next 140 = .ok (.getfield 153, 3) := by decide +kernel
theorem dX12_next_143 : decode cX12_next 143 = .ok (.iconst 1, 1) := by decide +kernel
theorem dX12_next_144 : decode cX12_next 144 = .ok (.iadd, 1) := by decide +kernel
theorem dX12_next_145 : decode cX12_next 145 = .ok (.putfield 153, 3) := by decide +kernel
theorem dX12_next_148 : decode cX12_next 148 = .ok (.return_, 1) := by decide +kernel
theorem dX12_takes_0 : decode cX12_takes 0 = .ok (.aload_n 0, 1) := by decide +kernel
theorem dX12_takes_1 : decode cX12_takes 1 = .ok (.getfield 211, 3) := by decide +kernel
theorem dX12_takes_4 : decode cX12_takes 4 = .ok (.ifCond .eq 20, 3) := by decide +kernel
theorem dX12_takes_7 : decode cX12_takes 7 = .ok (.iload_n 1, 1) := by decide +kernel
theorem dX12_takes_8 : decode cX12_takes 8 = .ok (.ifCond .ne 16, 3) := by decide +kernel
theorem dX12_takes_11 : decode cX12_takes 11 = .ok (.aload_n 0, 1) := by decide +kernel
theorem dX12_takes_12 : decode cX12_takes 12 = .ok (.iconst 0, 1) := by decide +kernel
theorem dX12_takes_13 : decode cX12_takes 13 = .ok (.putfield 211, 3) := by decide +kernel
theorem dX12_takes_16 : decode cX12_takes 16 = .ok (.aload_n 0, 1) := by decide +kernel
theorem dX12_takes_17 : decode cX12_takes 17 = .ok (.aload_n 0, 1) := by decide +kernel
theorem dX12_takes_18 : decode cX12_takes 18 = .ok (.getfield 190, 3) := by decide +kernel
theorem dX12_takes_21 : decode cX12_takes 21 = .ok (.putfield 13, 3) := by decide +kernel
theorem dX12_takes_24 : decode cX12_takes 24 = .ok (.aload_n 0, 1) := by decide +kernel
theorem dX12_takes_25 : decode cX12_takes 25 = .ok (.getfield 211, 3) := by decide +kernel
theorem dX12_takes_28 : decode cX12_takes 28 = .ok (.ifCond .eq 7, 3) := by decide +kernel
theorem dX12_takes_31 : decode cX12_takes 31 = .ok (.aload_n 0, 1) := by decide +kernel
theorem dX12_takes_32 : decode cX12_takes 32 = .ok (.invokevirtual 215, 3) := by decide +kernel
theorem dX12_takes_35 : decode cX12_takes 35 = .ok (.return_, 1) := by decide +kernel
theorem dX12_isWord_0 : decode cX12_isWord 0 = .ok (.aload_n 0, 1) := by decide +kernel
theorem dX12_isWord_1 : decode cX12_isWord 1 = .ok (.getfield 211, 3) := by decide +kernel
theorem dX12_isWord_4 : decode cX12_isWord 4 = .ok (.ifCond .eq 24, 3) := by decide +kernel
theorem dX12_isWord_7 : decode cX12_isWord 7 = .ok (.aload_n 0, 1) := by decide +kernel
theorem dX12_isWord_8 : decode cX12_isWord 8 = .ok (.getfield 199, 3) := by decide +kernel
theorem dX12_isWord_11 : decode cX12_isWord 11 = .ok (.iconst 2, 1) := by decide +kernel
theorem dX12_isWord_12 : decode cX12_isWord 12 = .ok (.if_icmp .ne 16, 3) := by decide +kernel
theorem dX12_isWord_15 : decode cX12_isWord 15 = .ok (.aload_n 0, 1) := by decide +kernel
theorem dX12_isWord_16 : decode cX12_isWord 16 = .ok (.getfield 179, 3) := by decide +kernel
theorem dX12_isWord_19 : decode cX12_isWord 19 = .ok (.lload_n 1, 1) := by decide +kernel
theorem dX12_isWord_20 : decode cX12_isWord 20 = .ok (.lcmp, 1) := by decide +kernel
theorem dX12_isWord_21 : decode cX12_isWord 21 = .ok (.ifCond .ne 7, 3) := by decide +kernel
theorem dX12_isWord_24 : decode cX12_isWord 24 = .ok (.iconst 1, 1) := by decide +kernel
theorem dX12_isWord_25 : decode cX12_isWord 25 = .ok (.goto 4, 3) := by decide +kernel
theorem dX12_isWord_28 : decode cX12_isWord 28 = .ok (.iconst 0, 1) := by decide +kernel
theorem dX12_isWord_29 : decode cX12_isWord 29 = .ok (.ireturn, 1) := by decide +kernel
theorem dX12_number_0 : decode cX12_number 0 = .ok (.aload_n 0, 1) := by decide +kernel
theorem dX12_number_1 : decode cX12_number 1 = .ok (.getfield 202, 3) := by decide +kernel
theorem dX12_number_4 : decode cX12_number 4 = .ok (.istore_n 3, 1) := by decide +kernel
theorem dX12_number_5 : decode cX12_number 5 = .ok (.aload_n 0, 1) := by decide +kernel
theorem dX12_number_6 : decode cX12_number 6 = .ok (.aload_n 0, 1) := by decide +kernel
theorem dX12_number_7 : decode cX12_number 7 = .ok (.getfield 199, 3) := by decide +kernel
theorem dX12_number_10 : decode cX12_number 10 = .ok (.iconst 3, 1) := by decide +kernel
theorem dX12_number_11 : decode cX12_number 11 = .ok (.if_icmp .ne 19, 3) := by decide +kernel
theorem dX12_number_14 : decode cX12_number 14 = .ok (.iload_n 3, 1) := by decide +kernel
theorem dX12_number_15 : decode cX12_number 15 = .ok (.i2l, 1) := by decide +kernel
theorem dX12_number_16 : decode cX12_number 16 = .ok (.iload_n 1, 1) := by decide +kernel
theorem dX12_number_17 : decode cX12_number 17 = .ok (.i2l, 1) := by decide +kernel
theorem dX12_number_18 : decode cX12_number 18 = .ok (.iload_n 2, 1) := by decide +kernel
theorem dX12_number_19 : decode cX12_number 19 = .ok (.i2l, 1) := by decide +kernel
theorem dX12_number_20 : decode cX12_number 20 = .ok (.invokestatic 72, 3) := by decide +kernel
theorem dX12_number_23 : decode cX12_number 23 = .ok (.ifCond .eq 7, 3) := by decide +kernel
theorem dX12_number_26 : decode cX12_number 26 = .ok (.iconst 1, 1) := by decide +kernel
theorem dX12_number_27 : decode cX12_number 27 = .ok (.goto 4, 3) := by decide +kernel
theorem dX12_number_30 : decode cX12_number 30 = .ok (.iconst 0, 1) := by decide +kernel
theorem dX12_number_31 : decode cX12_number 31 = .ok (.invokevirtual 218, 3) := by decide +kernel
theorem dX12_number_34 : decode cX12_number 34 = .ok (.iload_n 3, 1) := by decide +kernel
theorem dX12_number_35 : decode cX12_number 35 = .ok (.ireturn, 1) := by decide +kernel
theorem dX12_numberOf_0 : decode cX12_numberOf 0 = .ok (.aload_n 0, 1) := by decide +kernel
theorem dX12_numberOf_1 : decode cX12_numberOf 1 = .ok (.aload_n 0, 1) := by decide +kernel
theorem dX12_numberOf_2 : decode cX12_numberOf 2 = .ok (.lload_n 1, 1) := by decide +kernel
theorem dX12_numberOf_3 : decode cX12_numberOf 3 = .ok (.invokevirtual 222, 3) := by decide +kernel
theorem dX12_numberOf_6 : decode cX12_numberOf 6 = .ok (.invokevirtual 218, 3) := by decide +kernel
theorem dX12_numberOf_9 : decode cX12_numberOf 9 = .ok (.aload_n 0, 1) := by decide +kernel
theorem dX12_numberOf_10 : decode cX12_numberOf 10 = .ok (.iload_n 3, 1) := by decide +kernel
theorem dX12_numberOf_11 : decode cX12_numberOf 11 = .ok (.iload 4, 2) := by decide +kernel
theorem dX12_numberOf_13 : decode cX12_numberOf 13 = .ok (.invokevirtual 225, 3) := by decide +kernel
theorem dX12_numberOf_16 : decode cX12_numberOf 16 = .ok (.ireturn, 1) := by decide +kernel
theorem dX12_readNumbers_0 : decode cX12_readNumbers 0 = .ok (.aload_n 0, 1) := by decide +kernel
theorem dX12_readNumbers_1 : decode cX12_readNumbers 1 = .ok (.getfield 43, 3) := by decide +kernel
theorem dX12_readNumbers_4 : decode cX12_readNumbers 4 = .ok (.iconst 0, 1) := by decide +kernel
theorem dX12_readNumbers_5 : decode cX12_readNumbers 5 = .ok (.aload_n 0, 1) := by decide +kernel
theorem dX12_readNumbers_6 : decode cX12_readNumbers 6 = .ok (.ldc2_w 159, 3) := by decide +kernel
theorem dX12_readNumbers_9 : decode cX12_readNumbers 9 = .ok (.iconst 1, 1) := by decide +kernel
theorem dX12_readNumbers_10 : decode cX12_readNumbers 10 = .ok (.bipush 100, 2) := by decide +kernel
theorem dX12_readNumbers_12 : decode cX12_readNumbers 12 = .ok (.invokevirtual 228, 3) := by decide +kernel
theorem dX12_readNumbers_15 : decode cX12_readNumbers 15 = .ok (.iastore, 1) := by decide +kernel
theorem dX12_readNumbers_16 : decode cX12_readNumbers 16 = .ok (.aload_n 0, 1) := by decide +kernel
theorem dX12_readNumbers_17 : decode cX12_readNumbers 17 = .ok (.getfield 43, 3) := by decide +kernel
theorem dX12_readNumbers_20 : decode cX12_readNumbers 20 = .ok (.iconst 1, 1) := by decide +kernel
theorem dX12_readNumbers_21 : decode cX12_readNumbers 21 = .ok (.aload_n 0, 1) := by decide +kernel
theorem dX12_readNumbers_22 : decode cX12_readNumbers 22 = .ok (.ldc2_w 161, 3) := by decide +kernel
theorem dX12_readNumbers_25 : decode cX12_readNumbers 25 = .ok (.iconst 0, 1) := by decide +kernel
theorem dX12_readNumbers_26 : decode cX12_readNumbers 26 = .ok (.bipush 100, 2) := by decide +kernel
theorem dX12_readNumbers_28 : decode cX12_readNumbers 28 = .ok (.invokevirtual 228, 3) := by decide +kernel
theorem dX12_readNumbers_31 : decode cX12_readNumbers 31 = .ok (.iastore, 1) := by decide +kernel
theorem dX12_readNumbers_32 : decode cX12_readNumbers 32 = .ok (.iconst 1, 1) := by decide +kernel
theorem dX12_readNumbers_33 : decode cX12_readNumbers 33 = .ok (.istore_n 1, 1) := by decide +kernel
theorem dX12_readNumbers_34 : decode cX12_readNumbers 34 = .ok (.iload_n 1, 1) := by decide +kernel
theorem dX12_readNumbers_35 : decode cX12_readNumbers 35 = .ok (.iconst 4, 1) := by decide +kernel
theorem dX12_readNumbers_36 : decode cX12_readNumbers 36 = .ok (.if_icmp .ge 24, 3) := by decide +kernel
theorem dX12_readNumbers_39 : decode cX12_readNumbers 39 = .ok (.aload_n 0, 1) := by decide +kernel
theorem dX12_readNumbers_40 : decode cX12_readNumbers 40 = .ok (.getfield 43, 3) := by decide +kernel
theorem dX12_readNumbers_43 : decode cX12_readNumbers 43 = .ok (.iconst 1, 1) := by decide +kernel
theorem dX12_readNumbers_44 : decode cX12_readNumbers 44 = .ok (.iload_n 1, 1) := by decide +kernel
theorem dX12_readNumbers_45 : decode cX12_readNumbers 45 = .ok (.iadd, 1) := by decide +kernel
theorem dX12_readNumbers_46 : decode cX12_readNumbers 46 = .ok (.aload_n 0, 1) := by decide +kernel
theorem dX12_readNumbers_47 : decode cX12_readNumbers 47 = .ok (.iconst 0, 1) := by decide +kernel
theorem dX12_readNumbers_48 : decode cX12_readNumbers 48 = .ok (.bipush 100, 2) := by decide +kernel
theorem dX12_readNumbers_50 : decode cX12_readNumbers 50 = .ok (.invokevirtual 225, 3) := by decide +kernel
theorem dX12_readNumbers_53 : decode cX12_readNumbers 53 = .ok (.iastore, 1) := by decide +kernel
theorem dX12_readNumbers_54 : decode cX12_readNumbers 54 = .ok (.iinc 1 1, 3) := by decide +kernel
theorem dX12_readNumbers_57 : decode cX12_readNumbers 57 = .ok (.goto (-23), 3) := by decide +kernel
theorem dX12_readNumbers_60 : decode cX12_readNumbers 60 = .ok (.aload_n 0, 1) := by decide +kernel
theorem dX12_readNumbers_61 : decode cX12_readNumbers 61 = .ok (.getfield 43, 3) := by decide +kernel
theorem dX12_readNumbers_64 : decode cX12_readNumbers 64 = .ok (.iconst 5, 1) := by decide +kernel
theorem dX12_readNumbers_65 : decode cX12_readNumbers 65 = .ok (.aload_n 0, 1) := by decide +kernel
theorem dX12_readNumbers_66 : decode cX12_readNumbers 66 = .ok (.ldc2_w 163, 3) := by decide +kernel
theorem dX12_readNumbers_69 : decode cX12_readNumbers 69 = .ok (.iconst 0, 1) := by decide +kernel
theorem dX12_readNumbers_70 : decode cX12_readNumbers 70 = .ok (.bipush 9, 2) := by decide +kernel
theorem dX12_readNumbers_72 : decode cX12_readNumbers 72 = .ok (.invokevirtual 228, 3) := by decide +kernel
theorem dX12_readNumbers_75 : decode cX12_readNumbers 75 = .ok (.iastore, 1) := by decide +kernel
theorem dX12_readNumbers_76 : decode cX12_readNumbers 76 = .ok (.aload_n 0, 1) := by decide +kernel
theorem dX12_readNumbers_77 : decode cX12_readNumbers 77 = .ok (.getfield 43, 3) := by decide +kernel
theorem dX12_readNumbers_80 : decode cX12_readNumbers 80 = .ok (.bipush 6, 2) := by decide +kernel
theorem dX12_readNumbers_82 : decode cX12_readNumbers 82 = .ok (.aload_n 0, 1) := by decide +kernel
theorem dX12_readNumbers_83 : decode cX12_readNumbers 83 = .ok (.ldc2_w 165, 3) := by decide +kernel
theorem dX12_readNumbers_86 : decode cX12_readNumbers 86 = .ok (.iconst 1, 1) := by decide +kernel
theorem dX12_readNumbers_87 : decode cX12_readNumbers 87 = .ok (.bipush 20, 2) := by decide +kernel
theorem dX12_readNumbers_89 : decode cX12_readNumbers 89 = .ok (.invokevirtual 228, 3) := by decide +kernel
theorem dX12_readNumbers_92 : decode cX12_readNumbers 92 = .ok (.iastore, 1) := by decide +kernel
theorem dX12_readNumbers_93 : decode cX12_readNumbers 93 = .ok (.aload_n 0, 1) := by decide +kernel
theorem dX12_readNumbers_94 : decode cX12_readNumbers 94 = .ok (.getfield 43, 3) := by decide +kernel
theorem dX12_readNumbers_97 : decode cX12_readNumbers 97 = .ok (.bipush 7, 2) := by decide +kernel
theorem dX12_readNumbers_99 : decode cX12_readNumbers 99 = .ok (.aload_n 0, 1) := by decide +kernel
theorem dX12_readNumbers_100 : decode cX12_readNumbers 100 = .ok (.ldc2_w 167, 3) := by decide +kernel
theorem dX12_readNumbers_103 : decode cX12_readNumbers 103 = .ok (.iconst 0, 1) := by decide +kernel
theorem dX12_readNumbers_104 : decode cX12_readNumbers 104 = .ok (.bipush 9, 2) := by decide +kernel
theorem dX12_readNumbers_106 : decode cX12_readNumbers 106 = .ok (.invokevirtual 228, 3) := by decide +kernel
theorem dX12_readNumbers_109 : decode cX12_readNumbers 109 = .ok (.iastore, 1) := by decide +kernel
theorem dX12_readNumbers_110 : decode cX12_readNumbers 110 = .ok (.aload_n 0, 1) := by decide +kernel
theorem dX12_readNumbers_111 : decode cX12_readNumbers 111 = .ok (.getfield 43, 3) := by decide +kernel
theorem dX12_readNumbers_114 : decode cX12_readNumbers 114 = .ok (.bipush 8, 2) := by decide +kernel
theorem dX12_readNumbers_116 : decode cX12_readNumbers 116 = .ok (.aload_n 0, 1) := by decide +kernel
theorem dX12_readNumbers_117 : decode cX12_readNumbers 117 = .ok (.ldc2_w 169, 3) := by decide +kernel
theorem dX12_readNumbers_120 : decode cX12_readNumbers 120 = .ok (.iconst 0, 1) := by decide +kernel
theorem dX12_readNumbers_121 : decode cX12_readNumbers 121 = .ok (.bipush 30, 2) := by decide +kernel
theorem dX12_readNumbers_123 : decode cX12_readNumbers 123 = .ok (.invokevirtual 228, 3) := by decide +kernel
theorem dX12_readNumbers_126 : decode cX12_readNumbers 126 = .ok (.iastore, 1) := by decide +kernel
theorem dX12_readNumbers_127 : decode cX12_readNumbers 127 = .ok (.aload_n 0, 1) := by decide +kernel
theorem dX12_readNumbers_128 : decode cX12_readNumbers 128 = .ok (.getfield 43, 3) := by decide +kernel
theorem dX12_readNumbers_131 : decode cX12_readNumbers 131 = .ok (.bipush 9, 2) := by decide +kernel
theorem dX12_readNumbers_133 : decode cX12_readNumbers 133 = .ok (.aload_n 0, 1) := by decide +kernel
theorem dX12_readNumbers_134 : decode cX12_readNumbers 134 = .ok (.ldc2_w 171, 3) := by decide +kernel
theorem dX12_readNumbers_137 : decode cX12_readNumbers 137 = .ok (.iconst 0, 1) := by decide +kernel
theorem dX12_readNumbers_138 : decode cX12_readNumbers 138 = .ok (.iconst 3, 1) := by decide +kernel
theorem dX12_readNumbers_139 : decode cX12_readNumbers 139 = .ok (.invokevirtual 228, 3) := by decide +kernel
theorem dX12_readNumbers_142 : decode cX12_readNumbers 142 = .ok (.iastore, 1) := by decide +kernel
theorem dX12_readNumbers_143 : decode cX12_readNumbers 143 = .ok (.aload_n 0, 1) := by decide +kernel
theorem dX12_readNumbers_144 : decode cX12_readNumbers 144 = .ok (.aload_n 0, 1) := by decide +kernel
theorem dX12_readNumbers_145 : decode cX12_readNumbers 145 = .ok (.getfield 199, 3) := by decide +kernel
theorem dX12_readNumbers_148 : decode cX12_readNumbers 148 = .ok (.iconst 4, 1) := by decide +kernel
theorem dX12_readNumbers_149 : decode cX12_readNumbers 149 = .ok (.if_icmp .ne 7, 3) := by decide +kernel
theorem dX12_readNumbers_152 : decode cX12_readNumbers 152 = .ok (.iconst 1, 1) := by decide +kernel
theorem dX12_readNumbers_153 : decode cX12_readNumbers 153 = .ok (.goto 4, 3) := by decide +kernel
theorem dX12_readNumbers_156 : decode cX12_readNumbers 156 = .ok (.iconst 0, 1) := by decide +kernel
theorem dX12_readNumbers_157 : decode cX12_readNumbers 157 = .ok (.invokevirtual 218, 3) := by decide +kernel
theorem dX12_readNumbers_160 : decode cX12_readNumbers 160 = .ok (.return_, 1) := by decide +kernel
theorem dX12_named_0 : decode cX12_named 0 = .ok (.iconst 0, 1) := by decide +kernel
theorem dX12_named_1 : decode cX12_named 1 = .ok (.istore_n 3, 1) := by decide +kernel
theorem dX12_named_2 : decode cX12_named 2 = .ok (.iload_n 3, 1) := by decide +kernel
theorem dX12_named_3 : decode cX12_named 3 = .ok (.iload_n 2, 1) := by decide +kernel
theorem dX12_named_4 : decode cX12_named 4 = .ok (.if_icmp .ge 29, 3) := by decide +kernel
theorem dX12_named_7 : decode cX12_named 7 = .ok (.aload_n 0, 1) := by decide +kernel
theorem dX12_named_8 : decode cX12_named 8 = .ok (.getfield 199, 3) := by decide +kernel
theorem dX12_named_11 : decode cX12_named 11 = .ok (.iconst 1, 1) := by decide +kernel
theorem dX12_named_12 : decode cX12_named 12 = .ok (.if_icmp .ne 15, 3) := by decide +kernel
theorem dX12_named_15 : decode cX12_named 15 = .ok (.aload_n 1, 1) := by decide +kernel
theorem dX12_named_16 : decode cX12_named 16 = .ok (.iload_n 3, 1) := by decide +kernel
theorem dX12_named_17 : decode cX12_named 17 = .ok (.iaload, 1) := by decide +kernel
theorem dX12_named_18 : decode cX12_named 18 = .ok (.aload_n 0, 1) := by decide +kernel
theorem dX12_named_19 : decode cX12_named 19 = .ok (.getfield 183, 3) := by decide +kernel
theorem dX12_named_22 : decode cX12_named 22 = .ok (.if_icmp .ne 5, 3) := by decide +kernel
theorem dX12_named_25 : decode cX12_named 25 = .ok (.iload_n 3, 1) := by decide +kernel
theorem dX12_named_26 : decode cX12_named 26 = .ok (.ireturn, 1) := by decide +kernel
theorem dX12_named_27 : decode cX12_named 27 = .ok (.iinc 3 1, 3) := by decide +kernel
theorem dX12_named_30 : decode cX12_named 30 = .ok (.goto (-28), 3) := by decide +kernel
theorem dX12_named_33 : decode cX12_named 33 = .ok (.bipush (-2), 2) := by decide +kernel
theorem dX12_named_35 : decode cX12_named 35 = .ok (.ireturn, 1) := by decide +kernel
theorem dX12_readBoat_0 : decode cX12_readBoat 0 = .ok (.aload_n 0, 1) := by decide +kernel
theorem dX12_readBoat_1 : decode cX12_readBoat 1 = .ok (.getfield 232, 3) := by decide +kernel
theorem dX12_readBoat_4 : decode cX12_readBoat 4 = .ok (.istore_n 1, 1) := by decide +kernel
theorem dX12_readBoat_5 : decode cX12_readBoat 5 = .ok (.aload_n 0, 1) := by decide +kernel
theorem dX12_readBoat_6 : decode cX12_readBoat 6 = .ok (.iload_n 1, 1) := by decide +kernel
theorem dX12_readBoat_7 : decode cX12_readBoat 7 = .ok (.bipush 6, 2) := by decide +kernel
theorem dX12_readBoat_9 : decode cX12_readBoat 9 = .ok (.if_icmp .ge 7, 3) := by decide +kernel
theorem dX12_readBoat_12 : decode cX12_readBoat 12 = .ok (.iconst 1, 1) := by decide +kernel
theorem dX12_readBoat_13 : decode cX12_readBoat 13 = .ok (.goto 4, 3) := by decide +kernel
theorem dX12_readBoat_16 : decode cX12_readBoat 16 = .ok (.iconst 0, 1) := by decide +kernel
theorem dX12_readBoat_17 : decode cX12_readBoat 17 = .ok (.invokevirtual 218, 3) := by decide +kernel
theorem dX12_readBoat_20 : decode cX12_readBoat 20 = .ok (.aload_n 0, 1) := by decide +kernel
theorem dX12_readBoat_21 : decode cX12_readBoat 21 = .ok (.getfield 183, 3) := by decide +kernel
theorem dX12_readBoat_24 : decode cX12_readBoat 24 = .ok (.istore_n 2, 1) := by decide +kernel
theorem dX12_readBoat_25 : decode cX12_readBoat 25 = .ok (.aload_n 0, 1) := by decide +kernel
theorem dX12_readBoat_26 : decode cX12_readBoat 26 = .ok (.aload_n 0, 1) := by decide +kernel
theorem dX12_readBoat_27 : decode cX12_readBoat 27 = .ok (.getfield 199, 3) := by decide +kernel
theorem dX12_readBoat_30 : decode cX12_readBoat 30 = .ok (.iconst 1, 1) := by decide +kernel
theorem dX12_readBoat_31 : decode cX12_readBoat 31 = .ok (.if_icmp .ne 19, 3) := by decide +kernel
theorem dX12_readBoat_34 : decode cX12_readBoat 34 = .ok (.aload_n 0, 1) := by decide +kernel
theorem dX12_readBoat_35 : decode cX12_readBoat 35 = .ok (.aload_n 0, 1) := by decide +kernel
theorem dX12_readBoat_36 : decode cX12_readBoat 36 = .ok (.getfield 52, 3) := by decide +kernel
theorem dX12_readBoat_39 : decode cX12_readBoat 39 = .ok (.iload_n 1, 1) := by decide +kernel
theorem dX12_readBoat_40 : decode cX12_readBoat 40 = .ok (.invokevirtual 235, 3) := by decide +kernel
theorem dX12_readBoat_43 : decode cX12_readBoat 43 = .ok (.ifCond .ge 7, 3) := by decide +kernel
theorem dX12_readBoat_46 : decode cX12_readBoat 46 = .ok (.iconst 1, 1) := by decide +kernel
theorem dX12_readBoat_47 : decode cX12_readBoat 47 = .ok (.goto 4, 3) := by decide +kernel
theorem dX12_readBoat_50 : decode cX12_readBoat 50 = .ok (.iconst 0, 1) := by decide +kernel
theorem dX12_readBoat_51 : decode cX12_readBoat 51 = .ok (.invokevirtual 218, 3) := by decide +kernel
theorem dX12_readBoat_54 : decode cX12_readBoat 54 = .ok (.aload_n 0, 1) := by decide +kernel
theorem dX12_readBoat_55 : decode cX12_readBoat 55 = .ok (.aload_n 0, 1) := by decide +kernel
theorem dX12_readBoat_56 : decode cX12_readBoat 56 = .ok (.getfield 199, 3) := by decide +kernel
theorem dX12_readBoat_59 : decode cX12_readBoat 59 = .ok (.iconst 4, 1) := by decide +kernel
theorem dX12_readBoat_60 : decode cX12_readBoat 60 = .ok (.if_icmp .ne 7, 3) := by decide +kernel
theorem dX12_readBoat_63 : decode cX12_readBoat 63 = .ok (.iconst 1, 1) := by decide +kernel
theorem dX12_readBoat_64 : decode cX12_readBoat 64 = .ok (.goto 4, 3) := by decide +kernel
theorem dX12_readBoat_67 : decode cX12_readBoat 67 = .ok (.iconst 0, 1) := by decide +kernel
theorem dX12_readBoat_68 : decode cX12_readBoat 68 = .ok (.invokevirtual 218, 3) := by decide +kernel
theorem dX12_readBoat_71 : decode cX12_readBoat 71 = .ok (.aload_n 0, 1) := by decide +kernel
theorem dX12_readBoat_72 : decode cX12_readBoat 72 = .ok (.getfield 211, 3) := by decide +kernel
theorem dX12_readBoat_75 : decode cX12_readBoat 75 = .ok (.ifCond .eq 20, 3) := by decide +kernel
theorem dX12_readBoat_78 : decode cX12_readBoat 78 = .ok (.aload_n 0, 1) := by decide +kernel
theorem dX12_readBoat_79 : decode cX12_readBoat 79 = .ok (.getfield 52, 3) := by decide +kernel
theorem dX12_readBoat_82 : decode cX12_readBoat 82 = .ok (.iload_n 1, 1) := by decide +kernel
theorem dX12_readBoat_83 : decode cX12_readBoat 83 = .ok (.iload_n 2, 1) := by decide +kernel
theorem dX12_readBoat_84 : decode cX12_readBoat 84 = .ok (.iastore, 1) := by decide +kernel
theorem dX12_readBoat_85 : decode cX12_readBoat 85 = .ok (.aload_n 0, 1) := by decide +kernel
theorem dX12_readBoat_86 : decode cX12_readBoat 86 = .ok (.dup, 1) := by decide +kernel
theorem dX12_readBoat_87 : decode cX12_readBoat 87 = .ok (.getfield 232, 3) := by decide +kernel
theorem dX12_readBoat_90 : decode cX12_readBoat 90 = .ok (.iconst 1, 1) := by decide +kernel
theorem dX12_readBoat_91 : decode cX12_readBoat 91 = .ok (.iadd, 1) := by decide +kernel
theorem dX12_readBoat_92 : decode cX12_readBoat 92 = .ok (.putfield 232, 3) := by decide +kernel
theorem dX12_readBoat_95 : decode cX12_readBoat 95 = .ok (.return_, 1) := by decide +kernel
theorem dX12_readPerson_0 : decode cX12_readPerson 0 = .ok (.aload_n 0, 1) := by decide +kernel
theorem dX12_readPerson_1 : decode cX12_readPerson 1 = .ok (.getfield 239, 3) := by decide +kernel
theorem dX12_readPerson_4 : decode cX12_readPerson 4 = .ok (.istore_n 1, 1) := by decide +kernel
theorem dX12_readPerson_5 : decode cX12_readPerson 5 = .ok (.aload_n 0, 1) := by decide +kernel
theorem dX12_readPerson_6 : decode cX12_readPerson 6 = .ok (.aload_n 0, 1) := by decide +kernel
theorem dX12_readPerson_7 : decode cX12_readPerson 7 = .ok (.ldc2_w 175, 3) := by decide +kernel
theorem dX12_readPerson_10 : decode cX12_readPerson 10 = .ok (.invokevirtual 222, 3) := by decide +kernel
theorem dX12_readPerson_13 : decode cX12_readPerson 13 = .ok (.ifCond .eq 13, 3) := by decide +kernel
theorem dX12_readPerson_16 : decode cX12_readPerson 16 = .ok (.iload_n 1, 1) := by decide +kernel
theorem dX12_readPerson_17 : decode cX12_readPerson 17 = .ok (.bipush 20, 2) := by decide +kernel
theorem dX12_readPerson_19 : decode cX12_readPerson 19 = .ok (.if_icmp .ge 7, 3) := by decide +kernel
theorem dX12_readPerson_22 : decode cX12_readPerson 22 = .ok (.iconst 1, 1) := by decide +kernel
theorem dX12_readPerson_23 : decode cX12_readPerson 23 = .ok (.goto 4, 3) := by decide +kernel
theorem dX12_readPerson_26 : decode cX12_readPerson 26 = .ok (.iconst 0, 1) := by decide +kernel
theorem dX12_readPerson_27 : decode cX12_readPerson 27 = .ok (.invokevirtual 218, 3) := by decide +kernel
theorem dX12_readPerson_30 : decode cX12_readPerson 30 = .ok (.aload_n 0, 1) := by decide +kernel
theorem dX12_readPerson_31 : decode cX12_readPerson 31 = .ok (.getfield 183, 3) := by decide +kernel
theorem dX12_readPerson_34 : decode cX12_readPerson 34 = .ok (.istore_n 2, 1) := by decide +kernel
theorem dX12_readPerson_35 : decode cX12_readPerson 35 = .ok (.aload_n 0, 1) := by decide +kernel
theorem dX12_readPerson_36 : decode cX12_readPerson 36 = .ok (.aload_n 0, 1) := by decide +kernel
theorem dX12_readPerson_37 : decode cX12_readPerson 37 = .ok (.getfield 199, 3) := by decide +kernel
theorem dX12_readPerson_40 : decode cX12_readPerson 40 = .ok (.iconst 1, 1) := by decide +kernel
theorem dX12_readPerson_41 : decode cX12_readPerson 41 = .ok (.if_icmp .ne 19, 3) := by decide +kernel
theorem dX12_readPerson_44 : decode cX12_readPerson 44 = .ok (.aload_n 0, 1) := by decide +kernel
theorem dX12_readPerson_45 : decode cX12_readPerson 45 = .ok (.aload_n 0, 1) := by decide +kernel
theorem dX12_readPerson_46 : decode cX12_readPerson 46 = .ok (.getfield 46, 3) := by decide +kernel
theorem dX12_readPerson_49 : decode cX12_readPerson 49 = .ok (.iload_n 1, 1) := by decide +kernel
theorem dX12_readPerson_50 : decode cX12_readPerson 50 = .ok (.invokevirtual 235, 3) := by decide +kernel
theorem dX12_readPerson_53 : decode cX12_readPerson 53 = .ok (.ifCond .ge 7, 3) := by decide +kernel
theorem dX12_readPerson_56 : decode cX12_readPerson 56 = .ok (.iconst 1, 1) := by decide +kernel
theorem dX12_readPerson_57 : decode cX12_readPerson 57 = .ok (.goto 4, 3) := by decide +kernel
theorem dX12_readPerson_60 : decode cX12_readPerson 60 = .ok (.iconst 0, 1) := by decide +kernel
theorem dX12_readPerson_61 : decode cX12_readPerson 61 = .ok (.invokevirtual 218, 3) := by decide +kernel
theorem dX12_readPerson_64 : decode cX12_readPerson 64 = .ok (.bipush (-2), 2) := by decide +kernel
theorem dX12_readPerson_66 : decode cX12_readPerson 66 = .ok (.istore_n 3, 1) := by decide +kernel
theorem dX12_readPerson_67 : decode cX12_readPerson 67 = .ok (.aload_n 0, 1) := by decide +kernel
theorem dX12_readPerson_68 : decode cX12_readPerson 68 = .ok (.ldc2_w 177, 3) := by decide +kernel
theorem dX12_readPerson_71 : decode cX12_readPerson 71 = .ok (.invokevirtual 222, 3) := by decide +kernel
theorem dX12_readPerson_74 : decode cX12_readPerson 74 = .ok (.ifCond .eq 33, 3) := by decide +kernel
theorem dX12_readPerson_77 : decode cX12_readPerson 77 = .ok (.aload_n 0, 1) := by decide +kernel
theorem dX12_readPerson_78 : decode cX12_readPerson 78 = .ok (.invokevirtual 215, 3) := by decide +kernel
theorem dX12_readPerson_81 : decode cX12_readPerson 81 = .ok (.aload_n 0, 1) := by decide +kernel
theorem dX12_readPerson_82 : decode cX12_readPerson 82 = .ok (.aload_n 0, 1) := by decide +kernel
theorem dX12_readPerson_83 : decode cX12_readPerson 83 = .ok (.getfield 52, 3) := by decide +kernel
theorem dX12_readPerson_86 : decode cX12_readPerson 86 = .ok (.aload_n 0, 1) := by decide +kernel
theorem dX12_readPerson_87 : decode cX12_readPerson 87 = .ok (.getfield 232, 3) := by decide +kernel
theorem dX12_readPerson_90 : decode cX12_readPerson 90 = .ok (.invokevirtual 235, 3) := by decide +kernel
theorem dX12_readPerson_93 : decode cX12_readPerson 93 = .ok (.istore_n 3, 1) := by decide +kernel
theorem dX12_readPerson_94 : decode cX12_readPerson 94 = .ok (.aload_n 0, 1) := by decide +kernel
theorem dX12_readPerson_95 : decode cX12_readPerson 95 = .ok (.iload_n 3, 1) := by decide +kernel
theorem dX12_readPerson_96 : decode cX12_readPerson 96 = .ok (.ifCond .lt 7, 3) := by decide +kernel
theorem dX12_readPerson_99 : decode cX12_readPerson 99 = .ok (.iconst 1, 1) := by decide +kernel
theorem dX12_readPerson_100 : decode cX12_readPerson 100 = .ok (.goto 4, 3) := by decide +kernel
theorem dX12_readPerson_103 : decode cX12_readPerson 103 = .ok (.iconst 0, 1) := by decide +kernel
theorem dX12_readPerson_104 : decode cX12_readPerson 104 = .ok (.invokevirtual 218, 3) := by decide +kernel
theorem dX12_readPerson_107 : decode cX12_readPerson 107 = .ok (.aload_n 0, 1) := by decide +kernel
theorem dX12_readPerson_108 : decode cX12_readPerson 108 = .ok (.aload_n 0, 1) := by decide +kernel
theorem dX12_readPerson_109 : decode cX12_readPerson 109 = .ok (.getfield 199, 3) := by decide +kernel
theorem dX12_readPerson_112 : decode cX12_readPerson 112 = .ok (.iconst 4, 1) := by decide +kernel
theorem dX12_readPerson_113 : decode cX12_readPerson 113 = .ok (.if_icmp .ne 7, 3) := by decide +kernel
theorem dX12_readPerson_116 : decode cX12_readPerson 116 = .ok (.iconst 1, 1) := by decide +kernel
theorem dX12_readPerson_117 : decode cX12_readPerson 117 = .ok (.goto 4, 3) := by decide +kernel
theorem dX12_readPerson_120 : decode cX12_readPerson 120 = .ok (.iconst 0, 1) := by decide +kernel
theorem dX12_readPerson_121 : decode cX12_readPerson 121 = .ok (.invokevirtual 218, 3) := by decide +kernel
theorem dX12_readPerson_124 : decode cX12_readPerson 124 = .ok (.aload_n 0, 1) := by decide +kernel
theorem dX12_readPerson_125 : decode cX12_readPerson 125 = .ok (.getfield 211, 3) := by decide +kernel
theorem dX12_readPerson_128 : decode cX12_readPerson 128 = .ok (.ifCond .eq 27, 3) := by decide +kernel
theorem dX12_readPerson_131 : decode cX12_readPerson 131 = .ok (.aload_n 0, 1) := by decide +kernel
theorem dX12_readPerson_132 : decode cX12_readPerson 132 = .ok (.getfield 46, 3) := by decide +kernel
theorem dX12_readPerson_135 : decode cX12_readPerson 135 = .ok (.iload_n 1, 1) := by decide +kernel
theorem dX12_readPerson_136 : decode cX12_readPerson 136 = .ok (.iload_n 2, 1) := by decide +kernel
theorem dX12_readPerson_137 : decode cX12_readPerson 137 = .ok (.iastore, 1) := by decide +kernel
theorem dX12_readPerson_138 : decode cX12_readPerson 138 = .ok (.aload_n 0, 1) := by decide +kernel
theorem dX12_readPerson_139 : decode cX12_readPerson 139 = .ok (.getfield 49, 3) := by decide +kernel
theorem dX12_readPerson_142 : decode cX12_readPerson 142 = .ok (.iload_n 1, 1) := by decide +kernel
theorem dX12_readPerson_143 : decode cX12_readPerson 143 = .ok (.iload_n 3, 1) := by decide +kernel
theorem dX12_readPerson_144 : decode cX12_readPerson 144 = .ok (.iastore, 1) := by decide +kernel
theorem dX12_readPerson_145 : decode cX12_readPerson 145 = .ok (.aload_n 0, 1) := by decide +kernel
theorem dX12_readPerson_146 : decode cX12_readPerson 146 = .ok (.dup, 1) := by decide +kernel
theorem dX12_readPerson_147 : decode cX12_readPerson 147 = .ok (.getfield 239, 3) := by decide +kernel
theorem dX12_readPerson_150 : decode cX12_readPerson 150 = .ok (.iconst 1, 1) := by decide +kernel
theorem dX12_readPerson_151 : decode cX12_readPerson 151 = .ok (.iadd, 1) := by decide +kernel
theorem dX12_readPerson_152 : decode cX12_readPerson 152 = .ok (.putfield 239, 3) := by decide +kernel
theorem dX12_readPerson_155 : decode cX12_readPerson 155 = .ok (.return_, 1) := by decide +kernel
theorem dX12_readAll_0 : decode cX12_readAll 0 = .ok (.aload_n 0, 1) := by decide +kernel
theorem dX12_readAll_1 : decode cX12_readAll 1 = .ok (.invokevirtual 215, 3) := by decide +kernel
theorem dX12_readAll_4 : decode cX12_readAll 4 = .ok (.aload_n 0, 1) := by decide +kernel
theorem dX12_readAll_5 : decode cX12_readAll 5 = .ok (.invokevirtual 242, 3) := by decide +kernel
theorem dX12_readAll_8 : decode cX12_readAll 8 = .ok (.aload_n 0, 1) := by decide +kernel
theorem dX12_readAll_9 : decode cX12_readAll 9 = .ok (.ldc2_w 173, 3) := by decide +kernel
theorem dX12_readAll_12 : decode cX12_readAll 12 = .ok (.invokevirtual 222, 3) := by decide +kernel
theorem dX12_readAll_15 : decode cX12_readAll 15 = .ok (.ifCond .eq 10, 3) := by decide +kernel
theorem dX12_readAll_18 : decode cX12_readAll 18 = .ok (.aload_n 0, 1) := by decide +kernel
theorem dX12_readAll_19 : decode cX12_readAll 19 = .ok (.invokevirtual 245, 3) := by decide +kernel
theorem dX12_readAll_22 : decode cX12_readAll 22 = .ok (.goto (-14), 3) := by decide +kernel
theorem dX12_readAll_25 : decode cX12_readAll 25 = .ok (.aload_n 0, 1) := by decide +kernel
theorem dX12_readAll_26 : decode cX12_readAll 26 = .ok (.invokevirtual 248, 3) := by decide +kernel
theorem dX12_readAll_29 : decode cX12_readAll 29 = .ok (.aload_n 0, 1) := by decide +kernel
theorem dX12_readAll_30 : decode cX12_readAll 30 = .ok (.invokevirtual 248, 3) := by decide +kernel
theorem dX12_readAll_33 : decode cX12_readAll 33 = .ok (.aload_n 0, 1) := by decide +kernel
theorem dX12_readAll_34 : decode cX12_readAll 34 = .ok (.getfield 211, 3) := by decide +kernel
theorem dX12_readAll_37 : decode cX12_readAll 37 = .ok (.ifCond .eq 17, 3) := by decide +kernel
theorem dX12_readAll_40 : decode cX12_readAll 40 = .ok (.aload_n 0, 1) := by decide +kernel
theorem dX12_readAll_41 : decode cX12_readAll 41 = .ok (.getfield 199, 3) := by decide +kernel
theorem dX12_readAll_44 : decode cX12_readAll 44 = .ok (.ifCond .eq 10, 3) := by decide +kernel
theorem dX12_readAll_47 : decode cX12_readAll 47 = .ok (.aload_n 0, 1) := by decide +kernel
theorem dX12_readAll_48 : decode cX12_readAll 48 = .ok (.invokevirtual 248, 3) := by decide +kernel
theorem dX12_readAll_51 : decode cX12_readAll 51 = .ok (.goto (-18), 3) := by decide +kernel
theorem dX12_readAll_54 : decode cX12_readAll 54 = .ok (.return_, 1) := by decide +kernel
theorem dX12_append_0 : decode cX12_append 0 = .ok (.aload_n 0, 1) := by decide +kernel
theorem dX12_append_1 : decode cX12_append 1 = .ok (.getfield 156, 3) := by decide +kernel
theorem dX12_append_4 : decode cX12_append 4 = .ok (.bipush 20, 2) := by decide +kernel
theorem dX12_append_6 : decode cX12_append 6 = .ok (.iadd, 1) := by decide +kernel
theorem dX12_append_7 : decode cX12_append 7 = .ok (.sipush 800, 3) := by decide +kernel
theorem dX12_append_10 : decode cX12_append 10 = .ok (.if_icmp .le 5, 3) := by decide +kernel
theorem dX12_append_13 : decode cX12_append 13 = .ok (.iconst (-1), 1) := by decide +kernel
theorem dX12_append_14 : decode cX12_append 14 = .ok (.ireturn, 1) := by decide +kernel
theorem dX12_append_15 : decode cX12_append 15 = .ok (.aload_n 0, 1) := by decide +kernel
theorem dX12_append_16 : decode cX12_append 16 = .ok (.iload_n 1, 1) := by decide +kernel
theorem dX12_append_17 : decode cX12_append 17 = .ok (.invokevirtual 251, 3) := by decide +kernel
theorem dX12_append_20 : decode cX12_append 20 = .ok (.aload_n 0, 1) := by decide +kernel
theorem dX12_append_21 : decode cX12_append 21 = .ok (.iload_n 2, 1) := by decide +kernel
theorem dX12_append_22 : decode cX12_append 22 = .ok (.invokevirtual 251, 3) := by decide +kernel
theorem dX12_append_25 : decode cX12_append 25 = .ok (.aload_n 0, 1) := by decide +kernel
theorem dX12_append_26 : decode cX12_append 26 = .ok (.iload_n 3, 1) := by decide +kernel
theorem dX12_append_27 : decode cX12_append 27 = .ok (.invokevirtual 251, 3) := by decide +kernel
theorem dX12_append_30 : decode cX12_append 30 = .ok (.aload_n 0, 1) := by decide +kernel
theorem dX12_append_31 : decode cX12_append 31 = .ok (.iload 4, 2) := by decide +kernel
theorem dX12_append_33 : decode cX12_append 33 = .ok (.invokevirtual 251, 3) := by decide +kernel
theorem dX12_append_36 : decode cX12_append 36 = .ok (.aload_n 0, 1) := by decide +kernel
theorem dX12_append_37 : decode cX12_append 37 = .ok (.iload 5, 2) := by decide +kernel
theorem dX12_append_39 : decode cX12_append 39 = .ok (.invokevirtual 251, 3) := by decide +kernel
theorem dX12_append_42 : decode cX12_append 42 = .ok (.aload_n 0, 1) := by decide +kernel
theorem dX12_append_43 : decode cX12_append 43 = .ok (.getfield 156, 3) := by decide +kernel
theorem dX12_append_46 : decode cX12_append 46 = .ok (.ireturn, 1) := by decide +kernel
theorem dX12_feeds_0 : decode cX12_feeds 0 = .ok (.bipush 24, 2) := by decide +kernel
theorem dX12_feeds_2 : decode cX12_feeds 2 = .ok (.istore_n 2, 1) := by decide +kernel
theorem dX12_feeds_3 : decode cX12_feeds 3 = .ok (.iload_n 2, 1) := by decide +kernel
theorem dX12_feeds_4 : decode cX12_feeds 4 = .ok (.ifCond .lt 32, 3) := by decide +kernel
theorem dX12_feeds_7 : decode cX12_feeds 7 = .ok (.aload_n 0, 1) := by decide +kernel
theorem dX12_feeds_8 : decode cX12_feeds 8 = .ok (.getfield 7, 3) := by decide +kernel
theorem dX12_feeds_11 : decode cX12_feeds 11 = .ok (.aload_n 0, 1) := by decide +kernel
theorem dX12_feeds_12 : decode cX12_feeds 12 = .ok (.getfield 156, 3) := by decide +kernel
theorem dX12_feeds_15 : decode cX12_feeds 15 = .ok (.iload_n 1, 1) := by decide +kernel
theorem dX12_feeds_16 : decode cX12_feeds 16 = .ok (.iload_n 2, 1) := by decide +kernel
theorem dX12_feeds_17 : decode cX12_feeds 17 = .ok (.ishr, 1) := by decide +kernel
theorem dX12_feeds_18 : decode cX12_feeds 18 = .ok (.i2b, 1) := by decide +kernel
theorem dX12_feeds_19 : decode cX12_feeds 19 = .ok (.bastore, 1) := by decide +kernel
theorem dX12_feeds_20 : decode cX12_feeds 20 = .ok (.aload_n 0, 1) := by decide +kernel
theorem dX12_feeds_21 : decode cX12_feeds 21 = .ok (.dup, 1) := by decide +kernel
theorem dX12_feeds_22 : decode cX12_feeds 22 = .ok (.getfield 156, 3) := by decide +kernel
theorem dX12_feeds_25 : decode cX12_feeds 25 = .ok (.iconst 1, 1) := by decide +kernel
theorem dX12_feeds_26 : decode cX12_feeds 26 = .ok (.iadd, 1) := by decide +kernel
theorem dX12_feeds_27 : decode cX12_feeds 27 = .ok (.putfield 156, 3) := by decide +kernel
theorem dX12_feeds_30 : decode cX12_feeds 30 = .ok (.iinc 2 (-8), 3) := by decide +kernel
theorem dX12_feeds_33 : decode cX12_feeds 33 = .ok (.goto (-30), 3) := by decide +kernel
theorem dX12_feeds_36 : decode cX12_feeds 36 = .ok (.return_, 1) := by decide +kernel
theorem dX12_truncate_0 : decode cX12_truncate 0 = .ok (.iload_n 1, 1) := by decide +kernel
theorem dX12_truncate_1 : decode cX12_truncate 1 = .ok (.i2l, 1) := by decide +kernel
theorem dX12_truncate_2 : decode cX12_truncate 2 = .ok (.lconst 0, 1) := by decide +kernel
theorem dX12_truncate_3 : decode cX12_truncate 3 = .ok (.aload_n 0, 1) := by decide +kernel
theorem dX12_truncate_4 : decode cX12_truncate 4 = .ok (.getfield 156, 3) := by decide +kernel
theorem dX12_truncate_7 : decode cX12_truncate 7 = .ok (.i2l, 1) := by decide +kernel
theorem dX12_truncate_8 : decode cX12_truncate 8 = .ok (.invokestatic 72, 3) := by decide +kernel
theorem dX12_truncate_11 : decode cX12_truncate 11 = .ok (.ifCond .ne 5, 3) := by decide +kernel
theorem dX12_truncate_14 : decode cX12_truncate 14 = .ok (.iconst (-1), 1) := by decide +kernel
theorem dX12_truncate_15 : decode cX12_truncate 15 = .ok (.ireturn, 1) := by decide +kernel
theorem dX12_truncate_16 : decode cX12_truncate 16 = .ok (.aload_n 0, 1) := by decide +kernel
theorem dX12_truncate_17 : decode cX12_truncate 17 = .ok (.dup, 1) := by decide +kernel
theorem dX12_truncate_18 : decode cX12_truncate 18 = .ok (.getfield 156, 3) := by decide +kernel
theorem dX12_truncate_21 : decode cX12_truncate 21 = .ok (.iload_n 1, 1) := by decide +kernel
theorem dX12_truncate_22 : decode cX12_truncate 22 = .ok (.isub, 1) := by decide +kernel
theorem dX12_truncate_23 : decode cX12_truncate 23 = .ok (.putfield 156, 3) := by decide +kernel
theorem dX12_truncate_26 : decode cX12_truncate 26 = .ok (.aload_n 0, 1) := by decide +kernel
theorem dX12_truncate_27 : decode cX12_truncate 27 = .ok (.getfield 156, 3) := by decide +kernel
theorem dX12_truncate_30 : decode cX12_truncate 30 = .ok (.ireturn, 1) := by decide +kernel
theorem dX12_load_0 : decode cX12_load 0 = .ok (.aload_n 0, 1) := by decide +kernel
theorem dX12_load_1 : decode cX12_load 1 = .ok (.bipush (-2), 2) := by decide +kernel
theorem dX12_load_3 : decode cX12_load 3 = .ok (.putfield 13, 3) := by decide +kernel
theorem dX12_load_6 : decode cX12_load 6 = .ok (.aload_n 0, 1) := by decide +kernel
theorem dX12_load_7 : decode cX12_load 7 = .ok (.iconst 1, 1) := by decide +kernel
theorem dX12_load_8 : decode cX12_load 8 = .ok (.putfield 211, 3) := by decide +kernel
theorem dX12_load_11 : decode cX12_load 11 = .ok (.aload_n 0, 1) := by decide +kernel
theorem dX12_load_12 : decode cX12_load 12 = .ok (.iconst 0, 1) := by decide +kernel
theorem dX12_load_13 : decode cX12_load 13 = .ok (.putfield 153, 3) := by decide +kernel
theorem dX12_load_16 : decode cX12_load 16 = .ok (.aload_n 0, 1) := by decide +kernel
theorem dX12_load_17 : decode cX12_load 17 = .ok (.iconst 0, 1) := by decide +kernel
theorem dX12_load_18 : decode cX12_load 18 = .ok (.putfield 239, 3) := by decide +kernel
theorem dX12_load_21 : decode cX12_load 21 = .ok (.aload_n 0, 1) := by decide +kernel
theorem dX12_load_22 : decode cX12_load 22 = .ok (.iconst 0, 1) := by decide +kernel
theorem dX12_load_23 : decode cX12_load 23 = .ok (.putfield 232, 3) := by decide +kernel
theorem dX12_load_26 : decode cX12_load 26 = .ok (.aload_n 0, 1) := by decide +kernel
theorem dX12_load_27 : decode cX12_load 27 = .ok (.invokevirtual 254, 3) := by decide +kernel
theorem dX12_load_30 : decode cX12_load 30 = .ok (.aload_n 0, 1) := by decide +kernel
theorem dX12_load_31 : decode cX12_load 31 = .ok (.iconst 0, 1) := by decide +kernel
theorem dX12_load_32 : decode cX12_load 32 = .ok (.putfield 156, 3) := by decide +kernel
theorem dX12_load_35 : decode cX12_load 35 = .ok (.aload_n 0, 1) := by decide +kernel
theorem dX12_load_36 : decode cX12_load 36 = .ok (.getfield 211, 3) := by decide +kernel
theorem dX12_load_39 : decode cX12_load 39 = .ok (.ifCond .ne 5, 3) := by decide +kernel
theorem dX12_load_42 : decode cX12_load 42 = .ok (.iconst (-1), 1) := by decide +kernel
theorem dX12_load_43 : decode cX12_load 43 = .ok (.ireturn, 1) := by decide +kernel
theorem dX12_load_44 : decode cX12_load 44 = .ok (.aload_n 0, 1) := by decide +kernel
theorem dX12_load_45 : decode cX12_load 45 = .ok (.aload_n 0, 1) := by decide +kernel
theorem dX12_load_46 : decode cX12_load 46 = .ok (.getfield 239, 3) := by decide +kernel
theorem dX12_load_49 : decode cX12_load 49 = .ok (.putfield 55, 3) := by decide +kernel
theorem dX12_load_52 : decode cX12_load 52 = .ok (.aload_n 0, 1) := by decide +kernel
theorem dX12_load_53 : decode cX12_load 53 = .ok (.aload_n 0, 1) := by decide +kernel
theorem dX12_load_54 : decode cX12_load 54 = .ok (.getfield 232, 3) := by decide +kernel
theorem dX12_load_57 : decode cX12_load 57 = .ok (.putfield 76, 3) := by decide +kernel
theorem dX12_load_60 : decode cX12_load 60 = .ok (.iconst 0, 1) := by decide +kernel
theorem dX12_load_61 : decode cX12_load 61 = .ok (.istore_n 1, 1) := by decide +kernel
theorem dX12_load_62 : decode cX12_load 62 = .ok (.iload_n 1, 1) := by decide +kernel
theorem dX12_load_63 : decode cX12_load 63 = .ok (.bipush 10, 2) := by decide +kernel
theorem dX12_load_65 : decode cX12_load 65 = .ok (.if_icmp .ge 21, 3) := by decide +kernel
theorem dX12_load_68 : decode cX12_load 68 = .ok (.aload_n 0, 1) := by decide +kernel
theorem dX12_load_69 : decode cX12_load 69 = .ok (.getfield 17, 3) := by decide +kernel
theorem dX12_load_72 : decode cX12_load 72 = .ok (.iload_n 1, 1) := by decide +kernel
theorem dX12_load_73 : decode cX12_load 73 = .ok (.aload_n 0, 1) := by decide +kernel
theorem dX12_load_74 : decode cX12_load 74 = .ok (.getfield 43, 3) := by decide +kernel
theorem dX12_load_77 : decode cX12_load 77 = .ok (.iload_n 1, 1) := by decide +kernel
theorem dX12_load_78 : decode cX12_load 78 = .ok (.iaload, 1) := by decide +kernel
theorem dX12_load_79 : decode cX12_load 79 = .ok (.iastore, 1) := by decide +kernel
theorem dX12_load_80 : decode cX12_load 80 = .ok (.iinc 1 1, 3) := by decide +kernel
theorem dX12_load_83 : decode cX12_load 83 = .ok (.goto (-21), 3) := by decide +kernel
theorem dX12_load_86 : decode cX12_load 86 = .ok (.iconst 0, 1) := by decide +kernel
theorem dX12_load_87 : decode cX12_load 87 = .ok (.istore_n 1, 1) := by decide +kernel
theorem dX12_load_88 : decode cX12_load 88 = .ok (.iload_n 1, 1) := by decide +kernel
theorem dX12_load_89 : decode cX12_load 89 = .ok (.aload_n 0, 1) := by decide +kernel
theorem dX12_load_90 : decode cX12_load 90 = .ok (.getfield 55, 3) := by decide +kernel
theorem dX12_load_93 : decode cX12_load 93 = .ok (.if_icmp .ge 33, 3) := by decide +kernel
theorem dX12_load_96 : decode cX12_load 96 = .ok (.aload_n 0, 1) := by decide +kernel
theorem dX12_load_97 : decode cX12_load 97 = .ok (.getfield 21, 3) := by decide +kernel
theorem dX12_load_100 : decode cX12_load 100 = .ok (.iload_n 1, 1) := by decide +kernel
theorem dX12_load_101 : decode cX12_load 101 = .ok (.aload_n 0, 1) := by decide +kernel
theorem dX12_load_102 : decode cX12_load 102 = .ok (.getfield 46, 3) := by decide +kernel
theorem dX12_load_105 : decode cX12_load 105 = .ok (.iload_n 1, 1) := by decide +kernel
theorem dX12_load_106 : decode cX12_load 106 = .ok (.iaload, 1) := by decide +kernel
theorem dX12_load_107 : decode cX12_load 107 = .ok (.iastore, 1) := by decide +kernel
theorem dX12_load_108 : decode cX12_load 108 = .ok (.aload_n 0, 1) := by decide +kernel
theorem dX12_load_109 : decode cX12_load 109 = .ok (.getfield 24, 3) := by decide +kernel
theorem dX12_load_112 : decode cX12_load 112 = .ok (.iload_n 1, 1) := by decide +kernel
theorem dX12_load_113 : decode cX12_load 113 = .ok (.aload_n 0, 1) := by decide +kernel
theorem dX12_load_114 : decode cX12_load 114 = .ok (.getfield 49, 3) := by decide +kernel
theorem dX12_load_117 : decode cX12_load 117 = .ok (.iload_n 1, 1) := by decide +kernel
theorem dX12_load_118 : decode cX12_load 118 = .ok (.iaload, 1) := by decide +kernel
theorem dX12_load_119 : decode cX12_load 119 = .ok (.iastore, 1) := by decide +kernel
theorem dX12_load_120 : decode cX12_load 120 = .ok (.iinc 1 1, 3) := by decide +kernel
theorem dX12_load_123 : decode cX12_load 123 = .ok (.goto (-35), 3) := by decide +kernel
theorem dX12_load_126 : decode cX12_load 126 = .ok (.iconst 0, 1) := by decide +kernel
theorem dX12_load_127 : decode cX12_load 127 = .ok (.istore_n 1, 1) := by decide +kernel
theorem dX12_load_128 : decode cX12_load 128 = .ok (.iload_n 1, 1) := by decide +kernel
theorem dX12_load_129 : decode cX12_load 129 = .ok (.aload_n 0, 1) := by decide +kernel
theorem dX12_load_130 : decode cX12_load 130 = .ok (.getfield 76, 3) := by decide +kernel
theorem dX12_load_133 : decode cX12_load 133 = .ok (.if_icmp .ge 21, 3) := by decide +kernel
theorem dX12_load_136 : decode cX12_load 136 = .ok (.aload_n 0, 1) := by decide +kernel
theorem dX12_load_137 : decode cX12_load 137 = .ok (.getfield 27, 3) := by decide +kernel
theorem dX12_load_140 : decode cX12_load 140 = .ok (.iload_n 1, 1) := by decide +kernel
theorem dX12_load_141 : decode cX12_load 141 = .ok (.aload_n 0, 1) := by decide +kernel
theorem dX12_load_142 : decode cX12_load 142 = .ok (.getfield 52, 3) := by decide +kernel
theorem dX12_load_145 : decode cX12_load 145 = .ok (.iload_n 1, 1) := by decide +kernel
theorem dX12_load_146 : decode cX12_load 146 = .ok (.iaload, 1) := by decide +kernel
theorem dX12_load_147 : decode cX12_load 147 = .ok (.iastore, 1) := by decide +kernel
theorem dX12_load_148 : decode cX12_load 148 = .ok (.iinc 1 1, 3) := by decide +kernel
theorem dX12_load_151 : decode cX12_load 151 = .ok (.goto (-23), 3) := by decide +kernel
theorem dX12_load_154 : decode cX12_load 154 = .ok (.aload_n 0, 1) := by decide +kernel
theorem dX12_load_155 : decode cX12_load 155 = .ok (.invokevirtual 58, 3) := by decide +kernel
theorem dX12_load_158 : decode cX12_load 158 = .ok (.aload_n 0, 1) := by decide +kernel
theorem dX12_load_159 : decode cX12_load 159 = .ok (.getfield 55, 3) := by decide +kernel
theorem dX12_load_162 : decode cX12_load 162 = .ok (.ireturn, 1) := by decide +kernel
theorem dX12_errorPosition_0 : decode cX12_errorPosition 0 = .ok (.aload_n 0, 1) := by decide +kernel
theorem dX12_errorPosition_1 : decode cX12_errorPosition 1 = .ok (.getfield 13, 3) := by decide +kernel
theorem dX12_errorPosition_4 : decode cX12_errorPosition 4 = .ok (.ireturn, 1) := by decide +kernel
theorem dX12_keeps_0 : decode cX12_keeps 0 = .ok (.aload_n 0, 1) := by decide +kernel
theorem dX12_keeps_1 : decode cX12_keeps 1 = .ok (.getfield 69, 3) := by decide +kernel
theorem dX12_keeps_4 : decode cX12_keeps 4 = .ok (.bipush 8, 2) := by decide +kernel
theorem dX12_keeps_6 : decode cX12_keeps 6 = .ok (.if_icmp .ne 46, 3) := by decide +kernel
theorem dX12_keeps_9 : decode cX12_keeps 9 = .ok (.sipush 399, 3) := by decide +kernel
theorem dX12_keeps_12 : decode cX12_keeps 12 = .ok (.istore_n 1, 1) := by decide +kernel
theorem dX12_keeps_13 : decode cX12_keeps 13 = .ok (.iload_n 1, 1) := by decide +kernel
theorem dX12_keeps_14 : decode cX12_keeps 14 = .ok (.sipush 3192, 3) := by decide +kernel
theorem dX12_keeps_17 : decode cX12_keeps 17 = .ok (.if_icmp .ge 25, 3) := by decide +kernel
theorem dX12_keeps_20 : decode cX12_keeps 20 = .ok (.aload_n 0, 1) := by decide +kernel
theorem dX12_keeps_21 : decode cX12_keeps 21 = .ok (.getfield 33, 3) := by decide +kernel
theorem dX12_keeps_24 : decode cX12_keeps 24 = .ok (.iload_n 1, 1) := by decide +kernel
theorem dX12_keeps_25 : decode cX12_keeps 25 = .ok (.sipush 399, 3) := by decide +kernel
theorem dX12_keeps_28 : decode cX12_keeps 28 = .ok (.isub, 1) := by decide +kernel
theorem dX12_keeps_29 : decode cX12_keeps 29 = .ok (.aload_n 0, 1) := by decide +kernel
theorem dX12_keeps_30 : decode cX12_keeps 30 = .ok (.getfield 33, 3) := by decide +kernel
theorem dX12_keeps_33 : decode cX12_keeps 33 = .ok (.iload_n 1, 1) := by decide +kernel
theorem dX12_keeps_34 : decode cX12_keeps 34 = .ok (.iaload, 1) := by decide +kernel
theorem dX12_keeps_35 : decode cX12_keeps 35 = .ok (.iastore, 1) := by decide +kernel
theorem dX12_keeps_36 : decode cX12_keeps 36 = .ok (.iinc 1 1, 3) := by decide +kernel
theorem dX12_keeps_39 : decode cX12_keeps 39 = .ok (.goto (-26), 3) := by decide +kernel
theorem dX12_keeps_42 : decode cX12_keeps 42 = .ok (.aload_n 0, 1) := by decide +kernel
theorem dX12_keeps_43 : decode cX12_keeps 43 = .ok (.dup, 1) := by decide +kernel
theorem dX12_keeps_44 : decode cX12_keeps 44 = .ok (.getfield 69, 3) := by decide +kernel
theorem dX12_keeps_47 : decode cX12_keeps 47 = .ok (.iconst 1, 1) := by decide +kernel
theorem dX12_keeps_48 : decode cX12_keeps 48 = .ok (.isub, 1) := by decide +kernel
theorem dX12_keeps_49 : decode cX12_keeps 49 = .ok (.putfield 69, 3) := by decide +kernel
theorem dX12_keeps_52 : decode cX12_keeps 52 = .ok (.iconst 0, 1) := by decide +kernel
theorem dX12_keeps_53 : decode cX12_keeps 53 = .ok (.istore_n 1, 1) := by decide +kernel
theorem dX12_keeps_54 : decode cX12_keeps 54 = .ok (.iload_n 1, 1) := by decide +kernel
theorem dX12_keeps_55 : decode cX12_keeps 55 = .ok (.sipush 399, 3) := by decide +kernel
theorem dX12_keeps_58 : decode cX12_keeps 58 = .ok (.if_icmp .ge 30, 3) := by decide +kernel
theorem dX12_keeps_61 : decode cX12_keeps 61 = .ok (.aload_n 0, 1) := by decide +kernel
theorem dX12_keeps_62 : decode cX12_keeps 62 = .ok (.getfield 33, 3) := by decide +kernel
theorem dX12_keeps_65 : decode cX12_keeps 65 = .ok (.sipush 399, 3) := by decide +kernel
theorem dX12_keeps_68 : decode cX12_keeps 68 = .ok (.aload_n 0, 1) := by decide +kernel
theorem dX12_keeps_69 : decode cX12_keeps 69 = .ok (.getfield 69, 3) := by decide +kernel
theorem dX12_keeps_72 : decode cX12_keeps 72 = .ok (.imul, 1) := by decide +kernel
theorem dX12_keeps_73 : decode cX12_keeps 73 = .ok (.iload_n 1, 1) := by decide +kernel
theorem dX12_keeps_74 : decode cX12_keeps 74 = .ok (.iadd, 1) := by decide +kernel
theorem dX12_keeps_75 : decode cX12_keeps 75 = .ok (.aload_n 0, 1) := by decide +kernel
theorem dX12_keeps_76 : decode cX12_keeps 76 = .ok (.getfield 30, 3) := by decide +kernel
theorem dX12_keeps_79 : decode cX12_keeps 79 = .ok (.iload_n 1, 1) := by decide +kernel
theorem dX12_keeps_80 : decode cX12_keeps 80 = .ok (.iaload, 1) := by decide +kernel
theorem dX12_keeps_81 : decode cX12_keeps 81 = .ok (.iastore, 1) := by decide +kernel
theorem dX12_keeps_82 : decode cX12_keeps 82 = .ok (.iinc 1 1, 3) := by decide +kernel
theorem dX12_keeps_85 : decode cX12_keeps 85 = .ok (.goto (-31), 3) := by decide +kernel
theorem dX12_keeps_88 : decode cX12_keeps 88 = .ok (.aload_n 0, 1) := by decide +kernel
theorem dX12_keeps_89 : decode cX12_keeps 89 = .ok (.dup, 1) := by decide +kernel
theorem dX12_keeps_90 : decode cX12_keeps 90 = .ok (.getfield 69, 3) := by decide +kernel
theorem dX12_keeps_93 : decode cX12_keeps 93 = .ok (.iconst 1, 1) := by decide +kernel
theorem dX12_keeps_94 : decode cX12_keeps 94 = .ok (.iadd, 1) := by decide +kernel
theorem dX12_keeps_95 : decode cX12_keeps 95 = .ok (.putfield 69, 3) := by decide +kernel
theorem dX12_keeps_98 : decode cX12_keeps 98 = .ok (.return_, 1) := by decide +kernel
theorem dX12_undo_0 : decode cX12_undo 0 = .ok (.aload_n 0, 1) := by decide +kernel
theorem dX12_undo_1 : decode cX12_undo 1 = .ok (.getfield 69, 3) := by decide +kernel
theorem dX12_undo_4 : decode cX12_undo 4 = .ok (.ifCond .ne 5, 3) := by decide +kernel
theorem dX12_undo_7 : decode cX12_undo 7 = .ok (.iconst (-1), 1) := by decide +kernel
theorem dX12_undo_8 : decode cX12_undo 8 = .ok (.ireturn, 1) := by decide +kernel
theorem dX12_undo_9 : decode cX12_undo 9 = .ok (.aload_n 0, 1) := by decide +kernel
theorem dX12_undo_10 : decode cX12_undo 10 = .ok (.dup, 1) := by decide +kernel
theorem dX12_undo_11 : decode cX12_undo 11 = .ok (.getfield 69, 3) := by decide +kernel
theorem dX12_undo_14 : decode cX12_undo 14 = .ok (.iconst 1, 1) := by decide +kernel
theorem dX12_undo_15 : decode cX12_undo 15 = .ok (.isub, 1) := by decide +kernel
theorem dX12_undo_16 : decode cX12_undo 16 = .ok (.putfield 69, 3) := by decide +kernel
theorem dX12_undo_19 : decode cX12_undo 19 = .ok (.iconst 0, 1) := by decide +kernel
theorem dX12_undo_20 : decode cX12_undo 20 = .ok (.istore_n 1, 1) := by decide +kernel
theorem dX12_undo_21 : decode cX12_undo 21 = .ok (.iload_n 1, 1) := by decide +kernel
theorem dX12_undo_22 : decode cX12_undo 22 = .ok (.sipush 399, 3) := by decide +kernel
theorem dX12_undo_25 : decode cX12_undo 25 = .ok (.if_icmp .ge 30, 3) := by decide +kernel
theorem dX12_undo_28 : decode cX12_undo 28 = .ok (.aload_n 0, 1) := by decide +kernel
theorem dX12_undo_29 : decode cX12_undo 29 = .ok (.getfield 30, 3) := by decide +kernel
theorem dX12_undo_32 : decode cX12_undo 32 = .ok (.iload_n 1, 1) := by decide +kernel
theorem dX12_undo_33 : decode cX12_undo 33 = .ok (.aload_n 0, 1) := by decide +kernel
theorem dX12_undo_34 : decode cX12_undo 34 = .ok (.getfield 33, 3) := by decide +kernel
theorem dX12_undo_37 : decode cX12_undo 37 = .ok (.sipush 399, 3) := by decide +kernel
theorem dX12_undo_40 : decode cX12_undo 40 = .ok (.aload_n 0, 1) := by decide +kernel
theorem dX12_undo_41 : decode cX12_undo 41 = .ok (.getfield 69, 3) := by decide +kernel
theorem dX12_undo_44 : decode cX12_undo 44 = .ok (.imul, 1) := by decide +kernel
theorem dX12_undo_45 : decode cX12_undo 45 = .ok (.iload_n 1, 1) := by decide +kernel
theorem dX12_undo_46 : decode cX12_undo 46 = .ok (.iadd, 1) := by decide +kernel
theorem dX12_undo_47 : decode cX12_undo 47 = .ok (.iaload, 1) := by decide +kernel
theorem dX12_undo_48 : decode cX12_undo 48 = .ok (.iastore, 1) := by decide +kernel
theorem dX12_undo_49 : decode cX12_undo 49 = .ok (.iinc 1 1, 3) := by decide +kernel
theorem dX12_undo_52 : decode cX12_undo 52 = .ok (.goto (-31), 3) := by decide +kernel
theorem dX12_undo_55 : decode cX12_undo 55 = .ok (.aload_n 0, 1) := by decide +kernel
theorem dX12_undo_56 : decode cX12_undo 56 = .ok (.getfield 69, 3) := by decide +kernel
theorem dX12_undo_59 : decode cX12_undo 59 = .ok (.ireturn, 1) := by decide +kernel
theorem dX12_sail_0 : decode cX12_sail 0 = .ok (.aload_n 0, 1) := by decide +kernel
theorem dX12_sail_1 : decode cX12_sail 1 = .ok (.iload_n 1, 1) := by decide +kernel
theorem dX12_sail_2 : decode cX12_sail 2 = .ok (.invokevirtual 257, 3) := by decide +kernel
theorem dX12_sail_5 : decode cX12_sail 5 = .ok (.ifCond .eq 15, 3) := by decide +kernel
theorem dX12_sail_8 : decode cX12_sail 8 = .ok (.iload_n 2, 1) := by decide +kernel
theorem dX12_sail_9 : decode cX12_sail 9 = .ok (.i2l, 1) := by decide +kernel
theorem dX12_sail_10 : decode cX12_sail 10 = .ok (.lconst 1, 1) := by decide +kernel
theorem dX12_sail_11 : decode cX12_sail 11 = .ok (.ldc2_w 260, 3) := by decide +kernel
theorem dX12_sail_14 : decode cX12_sail 14 = .ok (.invokestatic 72, 3) := by decide +kernel
theorem dX12_sail_17 : decode cX12_sail 17 = .ok (.ifCond .ne 5, 3) := by decide +kernel
theorem dX12_sail_20 : decode cX12_sail 20 = .ok (.iconst (-1), 1) := by decide +kernel
theorem dX12_sail_21 : decode cX12_sail 21 = .ok (.ireturn, 1) := by decide +kernel
theorem dX12_sail_22 : decode cX12_sail 22 = .ok (.aload_n 0, 1) := by decide +kernel
theorem dX12_sail_23 : decode cX12_sail 23 = .ok (.iload_n 1, 1) := by decide +kernel
theorem dX12_sail_24 : decode cX12_sail 24 = .ok (.invokevirtual 106, 3) := by decide +kernel
theorem dX12_sail_27 : decode cX12_sail 27 = .ok (.ifCond .eq 6, 3) := by decide +kernel
theorem dX12_sail_30 : decode cX12_sail 30 = .ok (.bipush (-4), 2) := by decide +kernel
theorem dX12_sail_32 : decode cX12_sail 32 = .ok (.ireturn, 1) := by decide +kernel
theorem dX12_sail_33 : decode cX12_sail 33 = .ok (.aload_n 0, 1) := by decide +kernel
theorem dX12_sail_34 : decode cX12_sail 34 = .ok (.invokevirtual 262, 3) := by decide +kernel
theorem dX12_sail_37 : decode cX12_sail 37 = .ok (.iconst 0, 1) := by decide +kernel
theorem dX12_sail_38 : decode cX12_sail 38 = .ok (.istore_n 3, 1) := by decide +kernel
theorem dX12_sail_39 : decode cX12_sail 39 = .ok (.iconst 0, 1) := by decide +kernel
theorem dX12_sail_40 : decode cX12_sail 40 = .ok (.istore 4, 2) := by decide +kernel
theorem dX12_sail_42 : decode cX12_sail 42 = .ok (.iload 4, 2) := by decide +kernel
theorem dX12_sail_44 : decode cX12_sail 44 = .ok (.aload_n 0, 1) := by decide +kernel
theorem dX12_sail_45 : decode cX12_sail 45 = .ok (.getfield 55, 3) := by decide +kernel
theorem dX12_sail_48 : decode cX12_sail 48 = .ok (.if_icmp .ge 40, 3) := by decide +kernel
theorem dX12_sail_51 : decode cX12_sail 51 = .ok (.aload_n 0, 1) := by decide +kernel
theorem dX12_sail_52 : decode cX12_sail 52 = .ok (.iload 4, 2) := by decide +kernel
theorem dX12_sail_54 : decode cX12_sail 54 = .ok (.iconst 0, 1) := by decide +kernel
theorem dX12_sail_55 : decode cX12_sail 55 = .ok (.invokevirtual 81, 3) := by decide +kernel
theorem dX12_sail_58 : decode cX12_sail 58 = .ok (.iload_n 1, 1) := by decide +kernel
theorem dX12_sail_59 : decode cX12_sail 59 = .ok (.if_icmp .ne 23, 3) := by decide +kernel
theorem dX12_sail_62 : decode cX12_sail 62 = .ok (.aload_n 0, 1) := by decide +kernel
theorem dX12_sail_63 : decode cX12_sail 63 = .ok (.iload 4, 2) := by decide +kernel
theorem dX12_sail_65 : decode cX12_sail 65 = .ok (.invokevirtual 91, 3) := by decide +kernel
theorem dX12_sail_68 : decode cX12_sail 68 = .ok (.ifCond .ne 14, 3) := by decide +kernel
theorem dX12_sail_71 : decode cX12_sail 71 = .ok (.aload_n 0, 1) := by decide +kernel
theorem dX12_sail_72 : decode cX12_sail 72 = .ok (.iload 4, 2) := by decide +kernel
theorem dX12_sail_74 : decode cX12_sail 74 = .ok (.iconst 1, 1) := by decide +kernel
theorem dX12_sail_75 : decode cX12_sail 75 = .ok (.iload_n 1, 1) := by decide +kernel
theorem dX12_sail_76 : decode cX12_sail 76 = .ok (.invokevirtual 61, 3) := by decide +kernel
theorem dX12_sail_79 : decode cX12_sail 79 = .ok (.iinc 3 1, 3) := by decide +kernel
theorem dX12_sail_82 : decode cX12_sail 82 = .ok (.iinc 4 1, 3) := by decide +kernel
theorem dX12_sail_85 : decode cX12_sail 85 = .ok (.goto (-43), 3) := by decide +kernel
theorem dX12_sail_88 : decode cX12_sail 88 = .ok (.aload_n 0, 1) := by decide +kernel
theorem dX12_sail_89 : decode cX12_sail 89 = .ok (.iload_n 1, 1) := by decide +kernel
theorem dX12_sail_90 : decode cX12_sail 90 = .ok (.iconst 0, 1) := by decide +kernel
theorem dX12_sail_91 : decode cX12_sail 91 = .ok (.iconst 1, 1) := by decide +kernel
theorem dX12_sail_92 : decode cX12_sail 92 = .ok (.invokevirtual 147, 3) := by decide +kernel
theorem dX12_sail_95 : decode cX12_sail 95 = .ok (.aload_n 0, 1) := by decide +kernel
theorem dX12_sail_96 : decode cX12_sail 96 = .ok (.iload_n 1, 1) := by decide +kernel
theorem dX12_sail_97 : decode cX12_sail 97 = .ok (.iconst 1, 1) := by decide +kernel
theorem dX12_sail_98 : decode cX12_sail 98 = .ok (.aload_n 0, 1) := by decide +kernel
theorem dX12_sail_99 : decode cX12_sail 99 = .ok (.getfield 30, 3) := by decide +kernel
theorem dX12_sail_102 : decode cX12_sail 102 = .ok (.iconst 0, 1) := by decide +kernel
theorem dX12_sail_103 : decode cX12_sail 103 = .ok (.iaload, 1) := by decide +kernel
theorem dX12_sail_104 : decode cX12_sail 104 = .ok (.iload_n 2, 1) := by decide +kernel
theorem dX12_sail_105 : decode cX12_sail 105 = .ok (.iadd, 1) := by decide +kernel
theorem dX12_sail_106 : decode cX12_sail 106 = .ok (.invokevirtual 147, 3) := by decide +kernel
theorem dX12_sail_109 : decode cX12_sail 109 = .ok (.aload_n 0, 1) := by decide +kernel
theorem dX12_sail_110 : decode cX12_sail 110 = .ok (.iload_n 1, 1) := by decide +kernel
theorem dX12_sail_111 : decode cX12_sail 111 = .ok (.iconst 2, 1) := by decide +kernel
theorem dX12_sail_112 : decode cX12_sail 112 = .ok (.aload_n 0, 1) := by decide +kernel
theorem dX12_sail_113 : decode cX12_sail 113 = .ok (.iload_n 1, 1) := by decide +kernel
theorem dX12_sail_114 : decode cX12_sail 114 = .ok (.iconst 2, 1) := by decide +kernel
theorem dX12_sail_115 : decode cX12_sail 115 = .ok (.invokevirtual 85, 3) := by decide +kernel
theorem dX12_sail_118 : decode cX12_sail 118 = .ok (.iconst 1, 1) := by decide +kernel
theorem dX12_sail_119 : decode cX12_sail 119 = .ok (.iadd, 1) := by decide +kernel
theorem dX12_sail_120 : decode cX12_sail 120 = .ok (.invokevirtual 147, 3) := by decide +kernel
theorem dX12_sail_123 : decode cX12_sail 123 = .ok (.aload_n 0, 1) := by decide +kernel
theorem dX12_sail_124 : decode cX12_sail 124 = .ok (.iconst 0, 1) := by decide +kernel
theorem dX12_sail_125 : decode cX12_sail 125 = .ok (.iload_n 1, 1) := by decide +kernel
theorem dX12_sail_126 : decode cX12_sail 126 = .ok (.aload_n 0, 1) := by decide +kernel
theorem dX12_sail_127 : decode cX12_sail 127 = .ok (.iload_n 1, 1) := by decide +kernel
theorem dX12_sail_128 : decode cX12_sail 128 = .ok (.iconst 1, 1) := by decide +kernel
theorem dX12_sail_129 : decode cX12_sail 129 = .ok (.invokevirtual 85, 3) := by decide +kernel
theorem dX12_sail_132 : decode cX12_sail 132 = .ok (.invokevirtual 138, 3) := by decide +kernel
theorem dX12_sail_135 : decode cX12_sail 135 = .ok (.iload_n 3, 1) := by decide +kernel
theorem dX12_sail_136 : decode cX12_sail 136 = .ok (.ireturn, 1) := by decide +kernel
theorem dX12_delay_0 : decode cX12_delay 0 = .ok (.aload_n 0, 1) := by decide +kernel
theorem dX12_delay_1 : decode cX12_delay 1 = .ok (.iload_n 1, 1) := by decide +kernel
theorem dX12_delay_2 : decode cX12_delay 2 = .ok (.invokevirtual 257, 3) := by decide +kernel
theorem dX12_delay_5 : decode cX12_delay 5 = .ok (.ifCond .eq 15, 3) := by decide +kernel
theorem dX12_delay_8 : decode cX12_delay 8 = .ok (.iload_n 2, 1) := by decide +kernel
theorem dX12_delay_9 : decode cX12_delay 9 = .ok (.i2l, 1) := by decide +kernel
theorem dX12_delay_10 : decode cX12_delay 10 = .ok (.lconst 1, 1) := by decide +kernel
theorem dX12_delay_11 : decode cX12_delay 11 = .ok (.ldc2_w 260, 3) := by decide +kernel
theorem dX12_delay_14 : decode cX12_delay 14 = .ok (.invokestatic 72, 3) := by decide +kernel
theorem dX12_delay_17 : decode cX12_delay 17 = .ok (.ifCond .ne 5, 3) := by decide +kernel
theorem dX12_delay_20 : decode cX12_delay 20 = .ok (.iconst (-1), 1) := by decide +kernel
theorem dX12_delay_21 : decode cX12_delay 21 = .ok (.ireturn, 1) := by decide +kernel
theorem dX12_delay_22 : decode cX12_delay 22 = .ok (.aload_n 0, 1) := by decide +kernel
theorem dX12_delay_23 : decode cX12_delay 23 = .ok (.iload_n 1, 1) := by decide +kernel
theorem dX12_delay_24 : decode cX12_delay 24 = .ok (.invokevirtual 106, 3) := by decide +kernel
theorem dX12_delay_27 : decode cX12_delay 27 = .ok (.ifCond .ne 6, 3) := by decide +kernel
theorem dX12_delay_30 : decode cX12_delay 30 = .ok (.bipush (-4), 2) := by decide +kernel
theorem dX12_delay_32 : decode cX12_delay 32 = .ok (.ireturn, 1) := by decide +kernel
theorem dX12_delay_33 : decode cX12_delay 33 = .ok (.aload_n 0, 1) := by decide +kernel
theorem dX12_delay_34 : decode cX12_delay 34 = .ok (.invokevirtual 262, 3) := by decide +kernel
theorem dX12_delay_37 : decode cX12_delay 37 = .ok (.aload_n 0, 1) := by decide +kernel
theorem dX12_delay_38 : decode cX12_delay 38 = .ok (.iload_n 1, 1) := by decide +kernel
theorem dX12_delay_39 : decode cX12_delay 39 = .ok (.iconst 1, 1) := by decide +kernel
theorem dX12_delay_40 : decode cX12_delay 40 = .ok (.aload_n 0, 1) := by decide +kernel
theorem dX12_delay_41 : decode cX12_delay 41 = .ok (.iload_n 1, 1) := by decide +kernel
theorem dX12_delay_42 : decode cX12_delay 42 = .ok (.iconst 1, 1) := by decide +kernel
theorem dX12_delay_43 : decode cX12_delay 43 = .ok (.invokevirtual 85, 3) := by decide +kernel
theorem dX12_delay_46 : decode cX12_delay 46 = .ok (.iload_n 2, 1) := by decide +kernel
theorem dX12_delay_47 : decode cX12_delay 47 = .ok (.iadd, 1) := by decide +kernel
theorem dX12_delay_48 : decode cX12_delay 48 = .ok (.invokevirtual 147, 3) := by decide +kernel
theorem dX12_delay_51 : decode cX12_delay 51 = .ok (.aload_n 0, 1) := by decide +kernel
theorem dX12_delay_52 : decode cX12_delay 52 = .ok (.iload_n 1, 1) := by decide +kernel
theorem dX12_delay_53 : decode cX12_delay 53 = .ok (.iconst 1, 1) := by decide +kernel
theorem dX12_delay_54 : decode cX12_delay 54 = .ok (.invokevirtual 85, 3) := by decide +kernel
theorem dX12_delay_57 : decode cX12_delay 57 = .ok (.ireturn, 1) := by decide +kernel
theorem dX12_comeHome_0 : decode cX12_comeHome 0 = .ok (.aload_n 0, 1) := by decide +kernel
theorem dX12_comeHome_1 : decode cX12_comeHome 1 = .ok (.iload_n 1, 1) := by decide +kernel
theorem dX12_comeHome_2 : decode cX12_comeHome 2 = .ok (.invokevirtual 257, 3) := by decide +kernel
theorem dX12_comeHome_5 : decode cX12_comeHome 5 = .ok (.ifCond .ne 5, 3) := by decide +kernel
theorem dX12_comeHome_8 : decode cX12_comeHome 8 = .ok (.iconst (-1), 1) := by decide +kernel
theorem dX12_comeHome_9 : decode cX12_comeHome 9 = .ok (.ireturn, 1) := by decide +kernel
theorem dX12_comeHome_10 : decode cX12_comeHome 10 = .ok (.aload_n 0, 1) := by decide +kernel
theorem dX12_comeHome_11 : decode cX12_comeHome 11 = .ok (.iload_n 1, 1) := by decide +kernel
theorem dX12_comeHome_12 : decode cX12_comeHome 12 = .ok (.invokevirtual 106, 3) := by decide +kernel
theorem dX12_comeHome_15 : decode cX12_comeHome 15 = .ok (.ifCond .ne 6, 3) := by decide +kernel
theorem dX12_comeHome_18 : decode cX12_comeHome 18 = .ok (.bipush (-4), 2) := by decide +kernel
theorem dX12_comeHome_20 : decode cX12_comeHome 20 = .ok (.ireturn, 1) := by decide +kernel
theorem dX12_comeHome_21 : decode cX12_comeHome 21 = .ok (.aload_n 0, 1) := by decide +kernel
theorem dX12_comeHome_22 : decode cX12_comeHome 22 = .ok (.invokevirtual 262, 3) := by decide +kernel
theorem dX12_comeHome_25 : decode cX12_comeHome 25 = .ok (.aload_n 0, 1) := by decide +kernel
theorem dX12_comeHome_26 : decode cX12_comeHome 26 = .ok (.iload_n 1, 1) := by decide +kernel
theorem dX12_comeHome_27 : decode cX12_comeHome 27 = .ok (.invokevirtual 150, 3) := by decide +kernel
theorem dX12_comeHome_30 : decode cX12_comeHome 30 = .ok (.ireturn, 1) := by decide +kernel
theorem dX12_join_0 : decode cX12_join 0 = .ok (.aload_n 0, 1) := by decide +kernel
theorem dX12_join_1 : decode cX12_join 1 = .ok (.iload_n 1, 1) := by decide +kernel
theorem dX12_join_2 : decode cX12_join 2 = .ok (.invokevirtual 265, 3) := by decide +kernel
theorem dX12_join_5 : decode cX12_join 5 = .ok (.ifCond .eq 17, 3) := by decide +kernel
theorem dX12_join_8 : decode cX12_join 8 = .ok (.iload_n 2, 1) := by decide +kernel
theorem dX12_join_9 : decode cX12_join 9 = .ok (.bipush (-2), 2) := by decide +kernel
theorem dX12_join_11 : decode cX12_join 11 = .ok (.if_icmp .eq 13, 3) := by decide +kernel
theorem dX12_join_14 : decode cX12_join 14 = .ok (.aload_n 0, 1) := by decide +kernel
theorem dX12_join_15 : decode cX12_join 15 = .ok (.iload_n 2, 1) := by decide +kernel
theorem dX12_join_16 : decode cX12_join 16 = .ok (.invokevirtual 257, 3) := by decide +kernel
theorem dX12_join_19 : decode cX12_join 19 = .ok (.ifCond .ne 5, 3) := by decide +kernel
theorem dX12_join_22 : decode cX12_join 22 = .ok (.iconst (-1), 1) := by decide +kernel
theorem dX12_join_23 : decode cX12_join 23 = .ok (.ireturn, 1) := by decide +kernel
theorem dX12_join_24 : decode cX12_join 24 = .ok (.aload_n 0, 1) := by decide +kernel
theorem dX12_join_25 : decode cX12_join 25 = .ok (.iload_n 1, 1) := by decide +kernel
theorem dX12_join_26 : decode cX12_join 26 = .ok (.invokevirtual 91, 3) := by decide +kernel
theorem dX12_join_29 : decode cX12_join 29 = .ok (.ifCond .eq 6, 3) := by decide +kernel
theorem dX12_join_32 : decode cX12_join 32 = .ok (.bipush (-3), 2) := by decide +kernel
theorem dX12_join_34 : decode cX12_join 34 = .ok (.ireturn, 1) := by decide +kernel
theorem dX12_join_35 : decode cX12_join 35 = .ok (.aload_n 0, 1) := by decide +kernel
theorem dX12_join_36 : decode cX12_join 36 = .ok (.iload_n 1, 1) := by decide +kernel
theorem dX12_join_37 : decode cX12_join 37 = .ok (.iconst 0, 1) := by decide +kernel
theorem dX12_join_38 : decode cX12_join 38 = .ok (.invokevirtual 81, 3) := by decide +kernel
theorem dX12_join_41 : decode cX12_join 41 = .ok (.istore_n 3, 1) := by decide +kernel
theorem dX12_join_42 : decode cX12_join 42 = .ok (.iload_n 3, 1) := by decide +kernel
theorem dX12_join_43 : decode cX12_join 43 = .ok (.iload_n 2, 1) := by decide +kernel
theorem dX12_join_44 : decode cX12_join 44 = .ok (.if_icmp .ne 6, 3) := by decide +kernel
theorem dX12_join_47 : decode cX12_join 47 = .ok (.bipush (-2), 2) := by decide +kernel
theorem dX12_join_49 : decode cX12_join 49 = .ok (.ireturn, 1) := by decide +kernel
theorem dX12_join_50 : decode cX12_join 50 = .ok (.aload_n 0, 1) := by decide +kernel
theorem dX12_join_51 : decode cX12_join 51 = .ok (.invokevirtual 262, 3) := by decide +kernel
theorem dX12_join_54 : decode cX12_join 54 = .ok (.aload_n 0, 1) := by decide +kernel
theorem dX12_join_55 : decode cX12_join 55 = .ok (.iload_n 1, 1) := by decide +kernel
theorem dX12_join_56 : decode cX12_join 56 = .ok (.iconst 0, 1) := by decide +kernel
theorem dX12_join_57 : decode cX12_join 57 = .ok (.iload_n 2, 1) := by decide +kernel
theorem dX12_join_58 : decode cX12_join 58 = .ok (.invokevirtual 61, 3) := by decide +kernel
theorem dX12_join_61 : decode cX12_join 61 = .ok (.iload_n 3, 1) := by decide +kernel
theorem dX12_join_62 : decode cX12_join 62 = .ok (.ifCond .ge 7, 3) := by decide +kernel
theorem dX12_join_65 : decode cX12_join 65 = .ok (.iconst 0, 1) := by decide +kernel
theorem dX12_join_66 : decode cX12_join 66 = .ok (.goto 6, 3) := by decide +kernel
theorem dX12_join_69 : decode cX12_join 69 = .ok (.iload_n 3, 1) := by decide +kernel
theorem dX12_join_70 : decode cX12_join 70 = .ok (.iconst 1, 1) := by decide +kernel
theorem dX12_join_71 : decode cX12_join 71 = .ok (.iadd, 1) := by decide +kernel
theorem dX12_join_72 : decode cX12_join 72 = .ok (.ireturn, 1) := by decide +kernel
theorem dX12_isBackFromVote_0 : decode cX12_isBackFromVote 0 = .ok (.aload_n 0, 1) := by decide +kernel
theorem dX12_isBackFromVote_1 : decode cX12_isBackFromVote 1 = .ok (.iload_n 1, 1) := by decide +kernel
theorem dX12_isBackFromVote_2 : decode cX12_isBackFromVote 2 = .ok (.iconst 4, 1) := by decide +kernel
theorem dX12_isBackFromVote_3 : decode cX12_isBackFromVote 3 = .ok (.iconst 0, 1) := by decide +kernel
theorem dX12_isBackFromVote_4 : decode cX12_isBackFromVote 4 = .ok (.invokevirtual 61, 3) := by decide +kernel
theorem dX12_isBackFromVote_7 : decode cX12_isBackFromVote 7 = .ok (.aload_n 0, 1) := by decide +kernel
theorem dX12_isBackFromVote_8 : decode cX12_isBackFromVote 8 = .ok (.iload_n 1, 1) := by decide +kernel
theorem dX12_isBackFromVote_9 : decode cX12_isBackFromVote 9 = .ok (.invokevirtual 268, 3) := by decide +kernel
theorem dX12_isBackFromVote_12 : decode cX12_isBackFromVote 12 = .ok (.ifCond .eq 29, 3) := by decide +kernel
theorem dX12_isBackFromVote_15 : decode cX12_isBackFromVote 15 = .ok (.aload_n 0, 1) := by decide +kernel
theorem dX12_isBackFromVote_16 : decode cX12_isBackFromVote 16 = .ok (.iload_n 1, 1) := by decide +kernel
theorem dX12_isBackFromVote_17 : decode cX12_isBackFromVote 17 = .ok (.iconst 5, 1) := by decide +kernel
theorem dX12_isBackFromVote_18 : decode cX12_isBackFromVote 18 = .ok (.aload_n 0, 1) := by decide +kernel
theorem dX12_isBackFromVote_19 : decode cX12_isBackFromVote 19 = .ok (.iload_n 1, 1) := by decide +kernel
theorem dX12_isBackFromVote_20 : decode cX12_isBackFromVote 20 = .ok (.bipush 6, 2) := by decide +kernel
theorem dX12_isBackFromVote_22 : decode cX12_isBackFromVote 22 = .ok (.invokevirtual 81, 3) := by decide +kernel
theorem dX12_isBackFromVote_25 : decode cX12_isBackFromVote 25 = .ok (.ifCond .ge 7, 3) := by decide +kernel
theorem dX12_isBackFromVote_28 : decode cX12_isBackFromVote 28 = .ok (.iconst 0, 1) := by decide +kernel
theorem dX12_isBackFromVote_29 : decode cX12_isBackFromVote 29 = .ok (.goto 4, 3) := by decide +kernel
theorem dX12_isBackFromVote_32 : decode cX12_isBackFromVote 32 = .ok (.iconst 1, 1) := by decide +kernel
theorem dX12_isBackFromVote_33 : decode cX12_isBackFromVote 33 = .ok (.invokevirtual 61, 3) := by decide +kernel
theorem dX12_isBackFromVote_36 : decode cX12_isBackFromVote 36 = .ok (.aload_n 0, 1) := by decide +kernel
theorem dX12_isBackFromVote_37 : decode cX12_isBackFromVote 37 = .ok (.iload_n 1, 1) := by decide +kernel
theorem dX12_isBackFromVote_38 : decode cX12_isBackFromVote 38 = .ok (.invokevirtual 88, 3) := by decide +kernel
theorem dX12_isBackFromVote_41 : decode cX12_isBackFromVote 41 = .ok (.return_, 1) := by decide +kernel
theorem dX12_open_0 : decode cX12_open 0 = .ok (.iload_n 1, 1) := by decide +kernel
theorem dX12_open_1 : decode cX12_open 1 = .ok (.i2l, 1) := by decide +kernel
theorem dX12_open_2 : decode cX12_open 2 = .ok (.ldc2_w 271, 3) := by decide +kernel
theorem dX12_open_5 : decode cX12_open 5 = .ok (.ldc2_w 273, 3) := by decide +kernel
theorem dX12_open_8 : decode cX12_open 8 = .ok (.invokestatic 72, 3) := by decide +kernel
theorem dX12_open_11 : decode cX12_open 11 = .ok (.ifCond .ne 5, 3) := by decide +kernel
theorem dX12_open_14 : decode cX12_open 14 = .ok (.iconst (-1), 1) := by decide +kernel
theorem dX12_open_15 : decode cX12_open 15 = .ok (.ireturn, 1) := by decide +kernel
theorem dX12_open_16 : decode cX12_open 16 = .ok (.aload_n 0, 1) := by decide +kernel
theorem dX12_open_17 : decode cX12_open 17 = .ok (.invokevirtual 115, 3) := by decide +kernel
theorem dX12_open_20 : decode cX12_open 20 = .ok (.ifCond .eq 6, 3) := by decide +kernel
theorem dX12_open_23 : decode cX12_open 23 = .ok (.bipush (-5), 2) := by decide +kernel
theorem dX12_open_25 : decode cX12_open 25 = .ok (.ireturn, 1) := by decide +kernel
theorem dX12_open_26 : decode cX12_open 26 = .ok (.aload_n 0, 1) := by decide +kernel
theorem dX12_open_27 : decode cX12_open 27 = .ok (.invokevirtual 262, 3) := by decide +kernel
theorem dX12_open_30 : decode cX12_open 30 = .ok (.iconst 0, 1) := by decide +kernel
theorem dX12_open_31 : decode cX12_open 31 = .ok (.istore_n 2, 1) := by decide +kernel
theorem dX12_open_32 : decode cX12_open 32 = .ok (.iload_n 2, 1) := by decide +kernel
theorem dX12_open_33 : decode cX12_open 33 = .ok (.aload_n 0, 1) := by decide +kernel
theorem dX12_open_34 : decode cX12_open 34 = .ok (.getfield 55, 3) := by decide +kernel
theorem dX12_open_37 : decode cX12_open 37 = .ok (.if_icmp .ge 14, 3) := by decide +kernel
theorem dX12_open_40 : decode cX12_open 40 = .ok (.aload_n 0, 1) := by decide +kernel
theorem dX12_open_41 : decode cX12_open 41 = .ok (.iload_n 2, 1) := by decide +kernel
theorem dX12_open_42 : decode cX12_open 42 = .ok (.invokevirtual 275, 3) := by decide +kernel
theorem dX12_open_45 : decode cX12_open 45 = .ok (.iinc 2 1, 3) := by decide +kernel
theorem dX12_open_48 : decode cX12_open 48 = .ok (.goto (-16), 3) := by decide +kernel
theorem dX12_open_51 : decode cX12_open 51 = .ok (.aload_n 0, 1) := by decide +kernel
theorem dX12_open_52 : decode cX12_open 52 = .ok (.getfield 30, 3) := by decide +kernel
theorem dX12_open_55 : decode cX12_open 55 = .ok (.iconst 1, 1) := by decide +kernel
theorem dX12_open_56 : decode cX12_open 56 = .ok (.iaload, 1) := by decide +kernel
theorem dX12_open_57 : decode cX12_open 57 = .ok (.istore_n 2, 1) := by decide +kernel
theorem dX12_open_58 : decode cX12_open 58 = .ok (.aload_n 0, 1) := by decide +kernel
theorem dX12_open_59 : decode cX12_open 59 = .ok (.getfield 30, 3) := by decide +kernel
theorem dX12_open_62 : decode cX12_open 62 = .ok (.iconst 1, 1) := by decide +kernel
theorem dX12_open_63 : decode cX12_open 63 = .ok (.dup2, 1) := by decide +kernel
theorem dX12_open_64 : decode cX12_open 64 = .ok (.iaload, 1) := by decide +kernel
theorem dX12_open_65 : decode cX12_open 65 = .ok (.iconst 1, 1) := by decide +kernel
theorem dX12_open_66 : decode cX12_open 66 = .ok (.iadd, 1) := by decide +kernel
theorem dX12_open_67 : decode cX12_open 67 = .ok (.iastore, 1) := by decide +kernel
theorem dX12_open_68 : decode cX12_open 68 = .ok (.aload_n 0, 1) := by decide +kernel
theorem dX12_open_69 : decode cX12_open 69 = .ok (.getfield 30, 3) := by decide +kernel
theorem dX12_open_72 : decode cX12_open 72 = .ok (.iconst 2, 1) := by decide +kernel
theorem dX12_open_73 : decode cX12_open 73 = .ok (.iconst 1, 1) := by decide +kernel
theorem dX12_open_74 : decode cX12_open 74 = .ok (.iastore, 1) := by decide +kernel
theorem dX12_open_75 : decode cX12_open 75 = .ok (.aload_n 0, 1) := by decide +kernel
theorem dX12_open_76 : decode cX12_open 76 = .ok (.getfield 30, 3) := by decide +kernel
theorem dX12_open_79 : decode cX12_open 79 = .ok (.iconst 3, 1) := by decide +kernel
theorem dX12_open_80 : decode cX12_open 80 = .ok (.iload_n 1, 1) := by decide +kernel
theorem dX12_open_81 : decode cX12_open 81 = .ok (.iastore, 1) := by decide +kernel
theorem dX12_open_82 : decode cX12_open 82 = .ok (.aload_n 0, 1) := by decide +kernel
theorem dX12_open_83 : decode cX12_open 83 = .ok (.getfield 30, 3) := by decide +kernel
theorem dX12_open_86 : decode cX12_open 86 = .ok (.bipush 6, 2) := by decide +kernel
theorem dX12_open_88 : decode cX12_open 88 = .ok (.iconst 0, 1) := by decide +kernel
theorem dX12_open_89 : decode cX12_open 89 = .ok (.iastore, 1) := by decide +kernel
theorem dX12_open_90 : decode cX12_open 90 = .ok (.aload_n 0, 1) := by decide +kernel
theorem dX12_open_91 : decode cX12_open 91 = .ok (.getfield 30, 3) := by decide +kernel
theorem dX12_open_94 : decode cX12_open 94 = .ok (.bipush 7, 2) := by decide +kernel
theorem dX12_open_96 : decode cX12_open 96 = .ok (.iconst 0, 1) := by decide +kernel
theorem dX12_open_97 : decode cX12_open 97 = .ok (.iastore, 1) := by decide +kernel
theorem dX12_open_98 : decode cX12_open 98 = .ok (.aload_n 0, 1) := by decide +kernel
theorem dX12_open_99 : decode cX12_open 99 = .ok (.iconst 2, 1) := by decide +kernel
theorem dX12_open_100 : decode cX12_open 100 = .ok (.iload_n 2, 1) := by decide +kernel
theorem dX12_open_101 : decode cX12_open 101 = .ok (.iload_n 1, 1) := by decide +kernel
theorem dX12_open_102 : decode cX12_open 102 = .ok (.invokevirtual 138, 3) := by decide +kernel
theorem dX12_open_105 : decode cX12_open 105 = .ok (.iload_n 2, 1) := by decide +kernel
theorem dX12_open_106 : decode cX12_open 106 = .ok (.ireturn, 1) := by decide +kernel
theorem dX12_give_0 : decode cX12_give 0 = .ok (.aload_n 0, 1) := by decide +kernel
theorem dX12_give_1 : decode cX12_give 1 = .ok (.iload_n 1, 1) := by decide +kernel
theorem dX12_give_2 : decode cX12_give 2 = .ok (.invokevirtual 265, 3) := by decide +kernel
theorem dX12_give_5 : decode cX12_give 5 = .ok (.ifCond .eq 29, 3) := by decide +kernel
theorem dX12_give_8 : decode cX12_give 8 = .ok (.aload_n 0, 1) := by decide +kernel
theorem dX12_give_9 : decode cX12_give 9 = .ok (.iload_n 2, 1) := by decide +kernel
theorem dX12_give_10 : decode cX12_give 10 = .ok (.invokevirtual 265, 3) := by decide +kernel
theorem dX12_give_13 : decode cX12_give 13 = .ok (.ifCond .eq 21, 3) := by decide +kernel
theorem dX12_give_16 : decode cX12_give 16 = .ok (.iload_n 1, 1) := by decide +kernel
theorem dX12_give_17 : decode cX12_give 17 = .ok (.iload_n 2, 1) := by decide +kernel
theorem dX12_give_18 : decode cX12_give 18 = .ok (.if_icmp .eq 16, 3) := by decide +kernel
theorem dX12_give_21 : decode cX12_give 21 = .ok (.iload_n 3, 1) := by decide +kernel
theorem dX12_give_22 : decode cX12_give 22 = .ok (.bipush (-2), 2) := by decide +kernel
theorem dX12_give_24 : decode cX12_give 24 = .ok (.if_icmp .eq 12, 3) := by decide +kernel
theorem dX12_give_27 : decode cX12_give 27 = .ok (.iload_n 3, 1) := by decide +kernel
theorem dX12_give_28 : decode cX12_give 28 = .ok (.invokestatic 278, 3) := by decide +kernel
theorem dX12_give_31 : decode cX12_give 31 = .ok (.ifCond .ne 5, 3) := by decide +kernel
theorem dX12_give_34 : decode cX12_give 34 = .ok (.iconst (-1), 1) := by decide +kernel
theorem dX12_give_35 : decode cX12_give 35 = .ok (.ireturn, 1) := by decide +kernel
theorem dX12_give_36 : decode cX12_give 36 = .ok (.aload_n 0, 1) := by decide +kernel
theorem dX12_give_37 : decode cX12_give 37 = .ok (.iload_n 1, 1) := by decide +kernel
theorem dX12_give_38 : decode cX12_give 38 = .ok (.invokevirtual 91, 3) := by decide +kernel
theorem dX12_give_41 : decode cX12_give 41 = .ok (.ifCond .ne 11, 3) := by decide +kernel
theorem dX12_give_44 : decode cX12_give 44 = .ok (.aload_n 0, 1) := by decide +kernel
theorem dX12_give_45 : decode cX12_give 45 = .ok (.iload_n 2, 1) := by decide +kernel
theorem dX12_give_46 : decode cX12_give 46 = .ok (.invokevirtual 91, 3) := by decide +kernel
theorem dX12_give_49 : decode cX12_give 49 = .ok (.ifCond .eq 6, 3) := by decide +kernel
theorem dX12_give_52 : decode cX12_give 52 = .ok (.bipush (-3), 2) := by decide +kernel
theorem dX12_give_54 : decode cX12_give 54 = .ok (.ireturn, 1) := by decide +kernel
theorem dX12_give_55 : decode cX12_give 55 = .ok (.aload_n 0, 1) := by decide +kernel
theorem dX12_give_56 : decode cX12_give 56 = .ok (.iload_n 1, 1) := by decide +kernel
theorem dX12_give_57 : decode cX12_give 57 = .ok (.iconst 5, 1) := by decide +kernel
theorem dX12_give_58 : decode cX12_give 58 = .ok (.invokevirtual 81, 3) := by decide +kernel
theorem dX12_give_61 : decode cX12_give 61 = .ok (.ifCond .eq 6, 3) := by decide +kernel
theorem dX12_give_64 : decode cX12_give 64 = .ok (.bipush (-4), 2) := by decide +kernel
theorem dX12_give_66 : decode cX12_give 66 = .ok (.ireturn, 1) := by decide +kernel
theorem dX12_give_67 : decode cX12_give 67 = .ok (.aload_n 0, 1) := by decide +kernel
theorem dX12_give_68 : decode cX12_give 68 = .ok (.invokevirtual 262, 3) := by decide +kernel
theorem dX12_give_71 : decode cX12_give 71 = .ok (.aload_n 0, 1) := by decide +kernel
theorem dX12_give_72 : decode cX12_give 72 = .ok (.iload_n 1, 1) := by decide +kernel
theorem dX12_give_73 : decode cX12_give 73 = .ok (.iconst 5, 1) := by decide +kernel
theorem dX12_give_74 : decode cX12_give 74 = .ok (.iconst 1, 1) := by decide +kernel
theorem dX12_give_75 : decode cX12_give 75 = .ok (.invokevirtual 61, 3) := by decide +kernel
theorem dX12_give_78 : decode cX12_give 78 = .ok (.aload_n 0, 1) := by decide +kernel
theorem dX12_give_79 : decode cX12_give 79 = .ok (.iload_n 1, 1) := by decide +kernel
theorem dX12_give_80 : decode cX12_give 80 = .ok (.bipush 6, 2) := by decide +kernel
theorem dX12_give_82 : decode cX12_give 82 = .ok (.iload_n 2, 1) := by decide +kernel
theorem dX12_give_83 : decode cX12_give 83 = .ok (.invokevirtual 61, 3) := by decide +kernel
theorem dX12_give_86 : decode cX12_give 86 = .ok (.aload_n 0, 1) := by decide +kernel
theorem dX12_give_87 : decode cX12_give 87 = .ok (.iload_n 1, 1) := by decide +kernel
theorem dX12_give_88 : decode cX12_give 88 = .ok (.bipush 7, 2) := by decide +kernel
theorem dX12_give_90 : decode cX12_give 90 = .ok (.iload_n 3, 1) := by decide +kernel
theorem dX12_give_91 : decode cX12_give 91 = .ok (.invokevirtual 61, 3) := by decide +kernel
theorem dX12_give_94 : decode cX12_give 94 = .ok (.aload_n 0, 1) := by decide +kernel
theorem dX12_give_95 : decode cX12_give 95 = .ok (.iload_n 2, 1) := by decide +kernel
theorem dX12_give_96 : decode cX12_give 96 = .ok (.invokevirtual 281, 3) := by decide +kernel
theorem dX12_give_99 : decode cX12_give 99 = .ok (.invokestatic 103, 3) := by decide +kernel
theorem dX12_give_102 : decode cX12_give 102 = .ok (.ireturn, 1) := by decide +kernel
theorem dX12_takeBack_0 : decode cX12_takeBack 0 = .ok (.aload_n 0, 1) := by decide +kernel
theorem dX12_takeBack_1 : decode cX12_takeBack 1 = .ok (.iload_n 1, 1) := by decide +kernel
theorem dX12_takeBack_2 : decode cX12_takeBack 2 = .ok (.invokevirtual 265, 3) := by decide +kernel
theorem dX12_takeBack_5 : decode cX12_takeBack 5 = .ok (.ifCond .ne 5, 3) := by decide +kernel
theorem dX12_takeBack_8 : decode cX12_takeBack 8 = .ok (.iconst (-1), 1) := by decide +kernel
theorem dX12_takeBack_9 : decode cX12_takeBack 9 = .ok (.ireturn, 1) := by decide +kernel
theorem dX12_takeBack_10 : decode cX12_takeBack 10 = .ok (.aload_n 0, 1) := by decide +kernel
theorem dX12_takeBack_11 : decode cX12_takeBack 11 = .ok (.iload_n 1, 1) := by decide +kernel
theorem dX12_takeBack_12 : decode cX12_takeBack 12 = .ok (.iconst 5, 1) := by decide +kernel
theorem dX12_takeBack_13 : decode cX12_takeBack 13 = .ok (.invokevirtual 81, 3) := by decide +kernel
theorem dX12_takeBack_16 : decode cX12_takeBack 16 = .ok (.iconst 1, 1) := by decide +kernel
theorem dX12_takeBack_17 : decode cX12_takeBack 17 = .ok (.if_icmp .ne 7, 3) := by decide +kernel
theorem dX12_takeBack_20 : decode cX12_takeBack 20 = .ok (.iconst 1, 1) := by decide +kernel
theorem dX12_takeBack_21 : decode cX12_takeBack 21 = .ok (.goto 4, 3) := by decide +kernel
theorem dX12_takeBack_24 : decode cX12_takeBack 24 = .ok (.iconst 0, 1) := by decide +kernel
theorem dX12_takeBack_25 : decode cX12_takeBack 25 = .ok (.istore_n 2, 1) := by decide +kernel
theorem dX12_takeBack_26 : decode cX12_takeBack 26 = .ok (.aload_n 0, 1) := by decide +kernel
theorem dX12_takeBack_27 : decode cX12_takeBack 27 = .ok (.iload_n 1, 1) := by decide +kernel
theorem dX12_takeBack_28 : decode cX12_takeBack 28 = .ok (.bipush 6, 2) := by decide +kernel
theorem dX12_takeBack_30 : decode cX12_takeBack 30 = .ok (.invokevirtual 81, 3) := by decide +kernel
theorem dX12_takeBack_33 : decode cX12_takeBack 33 = .ok (.istore_n 3, 1) := by decide +kernel
theorem dX12_takeBack_34 : decode cX12_takeBack 34 = .ok (.aload_n 0, 1) := by decide +kernel
theorem dX12_takeBack_35 : decode cX12_takeBack 35 = .ok (.iload_n 1, 1) := by decide +kernel
theorem dX12_takeBack_36 : decode cX12_takeBack 36 = .ok (.invokevirtual 91, 3) := by decide +kernel
theorem dX12_takeBack_39 : decode cX12_takeBack 39 = .ok (.ifCond .ne 15, 3) := by decide +kernel
theorem dX12_takeBack_42 : decode cX12_takeBack 42 = .ok (.iload_n 2, 1) := by decide +kernel
theorem dX12_takeBack_43 : decode cX12_takeBack 43 = .ok (.ifCond .eq 14, 3) := by decide +kernel
theorem dX12_takeBack_46 : decode cX12_takeBack 46 = .ok (.aload_n 0, 1) := by decide +kernel
theorem dX12_takeBack_47 : decode cX12_takeBack 47 = .ok (.iload_n 3, 1) := by decide +kernel
theorem dX12_takeBack_48 : decode cX12_takeBack 48 = .ok (.invokevirtual 91, 3) := by decide +kernel
theorem dX12_takeBack_51 : decode cX12_takeBack 51 = .ok (.ifCond .eq 6, 3) := by decide +kernel
theorem dX12_takeBack_54 : decode cX12_takeBack 54 = .ok (.bipush (-3), 2) := by decide +kernel
theorem dX12_takeBack_56 : decode cX12_takeBack 56 = .ok (.ireturn, 1) := by decide +kernel
theorem dX12_takeBack_57 : decode cX12_takeBack 57 = .ok (.iload_n 2, 1) := by decide +kernel
theorem dX12_takeBack_58 : decode cX12_takeBack 58 = .ok (.ifCond .ne 6, 3) := by decide +kernel
theorem dX12_takeBack_61 : decode cX12_takeBack 61 = .ok (.bipush (-4), 2) := by decide +kernel
theorem dX12_takeBack_63 : decode cX12_takeBack 63 = .ok (.ireturn, 1) := by decide +kernel
theorem dX12_takeBack_64 : decode cX12_takeBack 64 = .ok (.aload_n 0, 1) := by decide +kernel
theorem dX12_takeBack_65 : decode cX12_takeBack 65 = .ok (.invokevirtual 262, 3) := by decide +kernel
theorem dX12_takeBack_68 : decode cX12_takeBack 68 = .ok (.aload_n 0, 1) := by decide +kernel
theorem dX12_takeBack_69 : decode cX12_takeBack 69 = .ok (.iload_n 1, 1) := by decide +kernel
theorem dX12_takeBack_70 : decode cX12_takeBack 70 = .ok (.invokevirtual 65, 3) := by decide +kernel
theorem dX12_takeBack_73 : decode cX12_takeBack 73 = .ok (.iload_n 3, 1) := by decide +kernel
theorem dX12_takeBack_74 : decode cX12_takeBack 74 = .ok (.ireturn, 1) := by decide +kernel
theorem dX12_would_0 : decode cX12_would 0 = .ok (.aload_n 0, 1) := by decide +kernel
theorem dX12_would_1 : decode cX12_would 1 = .ok (.iload_n 1, 1) := by decide +kernel
theorem dX12_would_2 : decode cX12_would 2 = .ok (.invokevirtual 265, 3) := by decide +kernel
theorem dX12_would_5 : decode cX12_would 5 = .ok (.ifCond .eq 18, 3) := by decide +kernel
theorem dX12_would_8 : decode cX12_would 8 = .ok (.aload_n 0, 1) := by decide +kernel
theorem dX12_would_9 : decode cX12_would 9 = .ok (.iload_n 2, 1) := by decide +kernel
theorem dX12_would_10 : decode cX12_would 10 = .ok (.invokevirtual 265, 3) := by decide +kernel
theorem dX12_would_13 : decode cX12_would 13 = .ok (.ifCond .eq 10, 3) := by decide +kernel
theorem dX12_would_16 : decode cX12_would 16 = .ok (.iload_n 3, 1) := by decide +kernel
theorem dX12_would_17 : decode cX12_would 17 = .ok (.invokestatic 278, 3) := by decide +kernel
theorem dX12_would_20 : decode cX12_would 20 = .ok (.ifCond .ne 5, 3) := by decide +kernel
theorem dX12_would_23 : decode cX12_would 23 = .ok (.iconst (-1), 1) := by decide +kernel
theorem dX12_would_24 : decode cX12_would 24 = .ok (.ireturn, 1) := by decide +kernel
theorem dX12_would_25 : decode cX12_would 25 = .ok (.aload_n 0, 1) := by decide +kernel
theorem dX12_would_26 : decode cX12_would 26 = .ok (.iload_n 1, 1) := by decide +kernel
theorem dX12_would_27 : decode cX12_would 27 = .ok (.invokevirtual 91, 3) := by decide +kernel
theorem dX12_would_30 : decode cX12_would 30 = .ok (.ifCond .eq 6, 3) := by decide +kernel
theorem dX12_would_33 : decode cX12_would 33 = .ok (.bipush (-3), 2) := by decide +kernel
theorem dX12_would_35 : decode cX12_would 35 = .ok (.ireturn, 1) := by decide +kernel
theorem dX12_would_36 : decode cX12_would 36 = .ok (.aload_n 0, 1) := by decide +kernel
theorem dX12_would_37 : decode cX12_would 37 = .ok (.iload_n 1, 1) := by decide +kernel
theorem dX12_would_38 : decode cX12_would 38 = .ok (.iload_n 2, 1) := by decide +kernel
theorem dX12_would_39 : decode cX12_would 39 = .ok (.invokevirtual 284, 3) := by decide +kernel
theorem dX12_would_42 : decode cX12_would 42 = .ok (.ifCond .ne 6, 3) := by decide +kernel
theorem dX12_would_45 : decode cX12_would 45 = .ok (.bipush (-4), 2) := by decide +kernel
theorem dX12_would_47 : decode cX12_would 47 = .ok (.ireturn, 1) := by decide +kernel
theorem dX12_would_48 : decode cX12_would 48 = .ok (.aload_n 0, 1) := by decide +kernel
theorem dX12_would_49 : decode cX12_would 49 = .ok (.invokevirtual 115, 3) := by decide +kernel
theorem dX12_would_52 : decode cX12_would 52 = .ok (.ifCond .eq 13, 3) := by decide +kernel
theorem dX12_would_55 : decode cX12_would 55 = .ok (.iload_n 3, 1) := by decide +kernel
theorem dX12_would_56 : decode cX12_would 56 = .ok (.aload_n 0, 1) := by decide +kernel
theorem dX12_would_57 : decode cX12_would 57 = .ok (.getfield 30, 3) := by decide +kernel
theorem dX12_would_60 : decode cX12_would 60 = .ok (.iconst 3, 1) := by decide +kernel
theorem dX12_would_61 : decode cX12_would 61 = .ok (.iaload, 1) := by decide +kernel
theorem dX12_would_62 : decode cX12_would 62 = .ok (.if_icmp .lt 8, 3) := by decide +kernel
theorem dX12_would_65 : decode cX12_would 65 = .ok (.bipush (-5), 2) := by decide +kernel
theorem dX12_would_67 : decode cX12_would 67 = .ok (.goto 10, 3) := by decide +kernel
theorem dX12_would_70 : decode cX12_would 70 = .ok (.aload_n 0, 1) := by decide +kernel
theorem dX12_would_71 : decode cX12_would 71 = .ok (.iload_n 1, 1) := by decide +kernel
theorem dX12_would_72 : decode cX12_would 72 = .ok (.iload_n 2, 1) := by decide +kernel
theorem dX12_would_73 : decode cX12_would 73 = .ok (.iload_n 3, 1) := by decide +kernel
theorem dX12_would_74 : decode cX12_would 74 = .ok (.invokevirtual 287, 3) := by decide +kernel
theorem dX12_would_77 : decode cX12_would 77 = .ok (.ireturn, 1) := by decide +kernel
theorem dX12_lay_0 : decode cX12_lay 0 = .ok (.aload_n 0, 1) := by decide +kernel
theorem dX12_lay_1 : decode cX12_lay 1 = .ok (.iload_n 1, 1) := by decide +kernel
theorem dX12_lay_2 : decode cX12_lay 2 = .ok (.iload_n 2, 1) := by decide +kernel
theorem dX12_lay_3 : decode cX12_lay 3 = .ok (.iload_n 3, 1) := by decide +kernel
theorem dX12_lay_4 : decode cX12_lay 4 = .ok (.invokevirtual 291, 3) := by decide +kernel
theorem dX12_lay_7 : decode cX12_lay 7 = .ok (.istore 4, 2) := by decide +kernel
theorem dX12_lay_9 : decode cX12_lay 9 = .ok (.iload 4, 2) := by decide +kernel
theorem dX12_lay_11 : decode cX12_lay 11 = .ok (.ifCond .ge 6, 3) := by decide +kernel
theorem dX12_lay_14 : decode cX12_lay 14 = .ok (.iload 4, 2) := by decide +kernel
theorem dX12_lay_16 : decode cX12_lay 16 = .ok (.ireturn, 1) := by decide +kernel
theorem dX12_lay_17 : decode cX12_lay 17 = .ok (.aload_n 0, 1) := by decide +kernel
theorem dX12_lay_18 : decode cX12_lay 18 = .ok (.invokevirtual 262, 3) := by decide +kernel
theorem dX12_lay_21 : decode cX12_lay 21 = .ok (.aload_n 0, 1) := by decide +kernel
theorem dX12_lay_22 : decode cX12_lay 22 = .ok (.iload_n 2, 1) := by decide +kernel
theorem dX12_lay_23 : decode cX12_lay 23 = .ok (.iconst 5, 1) := by decide +kernel
theorem dX12_lay_24 : decode cX12_lay 24 = .ok (.iconst 2, 1) := by decide +kernel
theorem dX12_lay_25 : decode cX12_lay 25 = .ok (.invokevirtual 61, 3) := by decide +kernel
theorem dX12_lay_28 : decode cX12_lay 28 = .ok (.aload_n 0, 1) := by decide +kernel
theorem dX12_lay_29 : decode cX12_lay 29 = .ok (.iload_n 2, 1) := by decide +kernel
theorem dX12_lay_30 : decode cX12_lay 30 = .ok (.bipush 8, 2) := by decide +kernel
theorem dX12_lay_32 : decode cX12_lay 32 = .ok (.iload_n 3, 1) := by decide +kernel
theorem dX12_lay_33 : decode cX12_lay 33 = .ok (.invokevirtual 61, 3) := by decide +kernel
theorem dX12_lay_36 : decode cX12_lay 36 = .ok (.aload_n 0, 1) := by decide +kernel
theorem dX12_lay_37 : decode cX12_lay 37 = .ok (.iload_n 2, 1) := by decide +kernel
theorem dX12_lay_38 : decode cX12_lay 38 = .ok (.bipush 9, 2) := by decide +kernel
theorem dX12_lay_40 : decode cX12_lay 40 = .ok (.aload_n 0, 1) := by decide +kernel
theorem dX12_lay_41 : decode cX12_lay 41 = .ok (.getfield 30, 3) := by decide +kernel
theorem dX12_lay_44 : decode cX12_lay 44 = .ok (.iconst 0, 1) := by decide +kernel
theorem dX12_lay_45 : decode cX12_lay 45 = .ok (.iaload, 1) := by decide +kernel
theorem dX12_lay_46 : decode cX12_lay 46 = .ok (.invokevirtual 61, 3) := by decide +kernel
theorem dX12_lay_49 : decode cX12_lay 49 = .ok (.aload_n 0, 1) := by decide +kernel
theorem dX12_lay_50 : decode cX12_lay 50 = .ok (.iload_n 2, 1) := by decide +kernel
theorem dX12_lay_51 : decode cX12_lay 51 = .ok (.bipush 10, 2) := by decide +kernel
theorem dX12_lay_53 : decode cX12_lay 53 = .ok (.iload 4, 2) := by decide +kernel
theorem dX12_lay_55 : decode cX12_lay 55 = .ok (.invokevirtual 61, 3) := by decide +kernel
theorem dX12_lay_58 : decode cX12_lay 58 = .ok (.aload_n 0, 1) := by decide +kernel
theorem dX12_lay_59 : decode cX12_lay 59 = .ok (.iload_n 1, 1) := by decide +kernel
theorem dX12_lay_60 : decode cX12_lay 60 = .ok (.iconst 4, 1) := by decide +kernel
theorem dX12_lay_61 : decode cX12_lay 61 = .ok (.aload_n 0, 1) := by decide +kernel
theorem dX12_lay_62 : decode cX12_lay 62 = .ok (.iload_n 1, 1) := by decide +kernel
theorem dX12_lay_63 : decode cX12_lay 63 = .ok (.iconst 4, 1) := by decide +kernel
theorem dX12_lay_64 : decode cX12_lay 64 = .ok (.invokevirtual 81, 3) := by decide +kernel
theorem dX12_lay_67 : decode cX12_lay 67 = .ok (.iload_n 1, 1) := by decide +kernel
theorem dX12_lay_68 : decode cX12_lay 68 = .ok (.iload_n 2, 1) := by decide +kernel
theorem dX12_lay_69 : decode cX12_lay 69 = .ok (.if_icmp .ne 7, 3) := by decide +kernel
theorem dX12_lay_72 : decode cX12_lay 72 = .ok (.iconst 0, 1) := by decide +kernel
theorem dX12_lay_73 : decode cX12_lay 73 = .ok (.goto 4, 3) := by decide +kernel
theorem dX12_lay_76 : decode cX12_lay 76 = .ok (.iconst 1, 1) := by decide +kernel
theorem dX12_lay_77 : decode cX12_lay 77 = .ok (.iadd, 1) := by decide +kernel
theorem dX12_lay_78 : decode cX12_lay 78 = .ok (.invokevirtual 61, 3) := by decide +kernel
theorem dX12_lay_81 : decode cX12_lay 81 = .ok (.aload_n 0, 1) := by decide +kernel
theorem dX12_lay_82 : decode cX12_lay 82 = .ok (.getfield 30, 3) := by decide +kernel
theorem dX12_lay_85 : decode cX12_lay 85 = .ok (.bipush 7, 2) := by decide +kernel
theorem dX12_lay_87 : decode cX12_lay 87 = .ok (.dup2, 1) := by decide +kernel
theorem dX12_lay_88 : decode cX12_lay 88 = .ok (.iaload, 1) := by decide +kernel
theorem dX12_lay_89 : decode cX12_lay 89 = .ok (.iconst 1, 1) := by decide +kernel
theorem dX12_lay_90 : decode cX12_lay 90 = .ok (.iadd, 1) := by decide +kernel
theorem dX12_lay_91 : decode cX12_lay 91 = .ok (.iastore, 1) := by decide +kernel
theorem dX12_lay_92 : decode cX12_lay 92 = .ok (.aload_n 0, 1) := by decide +kernel
theorem dX12_lay_93 : decode cX12_lay 93 = .ok (.iconst 3, 1) := by decide +kernel
theorem dX12_lay_94 : decode cX12_lay 94 = .ok (.iload_n 2, 1) := by decide +kernel
theorem dX12_lay_95 : decode cX12_lay 95 = .ok (.iload_n 3, 1) := by decide +kernel
theorem dX12_lay_96 : decode cX12_lay 96 = .ok (.invokevirtual 138, 3) := by decide +kernel
theorem dX12_lay_99 : decode cX12_lay 99 = .ok (.aload_n 0, 1) := by decide +kernel
theorem dX12_lay_100 : decode cX12_lay 100 = .ok (.iload_n 3, 1) := by decide +kernel
theorem dX12_lay_101 : decode cX12_lay 101 = .ok (.invokevirtual 95, 3) := by decide +kernel
theorem dX12_lay_104 : decode cX12_lay 104 = .ok (.invokestatic 103, 3) := by decide +kernel
theorem dX12_lay_107 : decode cX12_lay 107 = .ok (.ireturn, 1) := by decide +kernel
theorem dX12_contest_0 : decode cX12_contest 0 = .ok (.aload_n 0, 1) := by decide +kernel
theorem dX12_contest_1 : decode cX12_contest 1 = .ok (.iload_n 1, 1) := by decide +kernel
theorem dX12_contest_2 : decode cX12_contest 2 = .ok (.invokevirtual 265, 3) := by decide +kernel
theorem dX12_contest_5 : decode cX12_contest 5 = .ok (.ifCond .eq 11, 3) := by decide +kernel
theorem dX12_contest_8 : decode cX12_contest 8 = .ok (.aload_n 0, 1) := by decide +kernel
theorem dX12_contest_9 : decode cX12_contest 9 = .ok (.iload_n 2, 1) := by decide +kernel
theorem dX12_contest_10 : decode cX12_contest 10 = .ok (.invokevirtual 265, 3) := by decide +kernel
theorem dX12_contest_13 : decode cX12_contest 13 = .ok (.ifCond .ne 5, 3) := by decide +kernel
theorem dX12_contest_16 : decode cX12_contest 16 = .ok (.iconst (-1), 1) := by decide +kernel
theorem dX12_contest_17 : decode cX12_contest 17 = .ok (.ireturn, 1) := by decide +kernel
theorem dX12_contest_18 : decode cX12_contest 18 = .ok (.aload_n 0, 1) := by decide +kernel
theorem dX12_contest_19 : decode cX12_contest 19 = .ok (.iload_n 1, 1) := by decide +kernel
theorem dX12_contest_20 : decode cX12_contest 20 = .ok (.invokevirtual 91, 3) := by decide +kernel
theorem dX12_contest_23 : decode cX12_contest 23 = .ok (.ifCond .eq 6, 3) := by decide +kernel
theorem dX12_contest_26 : decode cX12_contest 26 = .ok (.bipush (-3), 2) := by decide +kernel
theorem dX12_contest_28 : decode cX12_contest 28 = .ok (.ireturn, 1) := by decide +kernel
theorem dX12_contest_29 : decode cX12_contest 29 = .ok (.aload_n 0, 1) := by decide +kernel
theorem dX12_contest_30 : decode cX12_contest 30 = .ok (.iload_n 2, 1) := by decide +kernel
theorem dX12_contest_31 : decode cX12_contest 31 = .ok (.iconst 5, 1) := by decide +kernel
theorem dX12_contest_32 : decode cX12_contest 32 = .ok (.invokevirtual 81, 3) := by decide +kernel
theorem dX12_contest_35 : decode cX12_contest 35 = .ok (.iconst 2, 1) := by decide +kernel
theorem dX12_contest_36 : decode cX12_contest 36 = .ok (.if_icmp .ne 13, 3) := by decide +kernel
theorem dX12_contest_39 : decode cX12_contest 39 = .ok (.aload_n 0, 1) := by decide +kernel
theorem dX12_contest_40 : decode cX12_contest 40 = .ok (.iload_n 1, 1) := by decide +kernel
theorem dX12_contest_41 : decode cX12_contest 41 = .ok (.iconst 2, 1) := by decide +kernel
theorem dX12_contest_42 : decode cX12_contest 42 = .ok (.invokevirtual 81, 3) := by decide +kernel
theorem dX12_contest_45 : decode cX12_contest 45 = .ok (.iconst 3, 1) := by decide +kernel
theorem dX12_contest_46 : decode cX12_contest 46 = .ok (.if_icmp .ne 6, 3) := by decide +kernel
theorem dX12_contest_49 : decode cX12_contest 49 = .ok (.bipush (-4), 2) := by decide +kernel
theorem dX12_contest_51 : decode cX12_contest 51 = .ok (.ireturn, 1) := by decide +kernel
theorem dX12_contest_52 : decode cX12_contest 52 = .ok (.aload_n 0, 1) := by decide +kernel
theorem dX12_contest_53 : decode cX12_contest 53 = .ok (.invokevirtual 294, 3) := by decide +kernel
theorem dX12_contest_56 : decode cX12_contest 56 = .ok (.ifCond .ne 6, 3) := by decide +kernel
theorem dX12_contest_59 : decode cX12_contest 59 = .ok (.bipush (-5), 2) := by decide +kernel
theorem dX12_contest_61 : decode cX12_contest 61 = .ok (.ireturn, 1) := by decide +kernel
theorem dX12_contest_62 : decode cX12_contest 62 = .ok (.aload_n 0, 1) := by decide +kernel
theorem dX12_contest_63 : decode cX12_contest 63 = .ok (.invokevirtual 262, 3) := by decide +kernel
theorem dX12_contest_66 : decode cX12_contest 66 = .ok (.aload_n 0, 1) := by decide +kernel
theorem dX12_contest_67 : decode cX12_contest 67 = .ok (.iload_n 2, 1) := by decide +kernel
theorem dX12_contest_68 : decode cX12_contest 68 = .ok (.bipush 10, 2) := by decide +kernel
theorem dX12_contest_70 : decode cX12_contest 70 = .ok (.invokevirtual 81, 3) := by decide +kernel
theorem dX12_contest_73 : decode cX12_contest 73 = .ok (.istore_n 3, 1) := by decide +kernel
theorem dX12_contest_74 : decode cX12_contest 74 = .ok (.iload_n 3, 1) := by decide +kernel
theorem dX12_contest_75 : decode cX12_contest 75 = .ok (.ifCond .le 13, 3) := by decide +kernel
theorem dX12_contest_78 : decode cX12_contest 78 = .ok (.aload_n 0, 1) := by decide +kernel
theorem dX12_contest_79 : decode cX12_contest 79 = .ok (.iconst 1, 1) := by decide +kernel
theorem dX12_contest_80 : decode cX12_contest 80 = .ok (.iload_n 2, 1) := by decide +kernel
theorem dX12_contest_81 : decode cX12_contest 81 = .ok (.ishl, 1) := by decide +kernel
theorem dX12_contest_82 : decode cX12_contest 82 = .ok (.invokevirtual 297, 3) := by decide +kernel
theorem dX12_contest_85 : decode cX12_contest 85 = .ok (.goto 29, 3) := by decide +kernel
theorem dX12_contest_88 : decode cX12_contest 88 = .ok (.aload_n 0, 1) := by decide +kernel
theorem dX12_contest_89 : decode cX12_contest 89 = .ok (.iload_n 1, 1) := by decide +kernel
theorem dX12_contest_90 : decode cX12_contest 90 = .ok (.iconst 2, 1) := by decide +kernel
theorem dX12_contest_91 : decode cX12_contest 91 = .ok (.aload_n 0, 1) := by decide +kernel
theorem dX12_contest_92 : decode cX12_contest 92 = .ok (.iload_n 1, 1) := by decide +kernel
theorem dX12_contest_93 : decode cX12_contest 93 = .ok (.iconst 2, 1) := by decide +kernel
theorem dX12_contest_94 : decode cX12_contest 94 = .ok (.invokevirtual 81, 3) := by decide +kernel
theorem dX12_contest_97 : decode cX12_contest 97 = .ok (.iconst 1, 1) := by decide +kernel
theorem dX12_contest_98 : decode cX12_contest 98 = .ok (.iadd, 1) := by decide +kernel
theorem dX12_contest_99 : decode cX12_contest 99 = .ok (.invokevirtual 61, 3) := by decide +kernel
theorem dX12_contest_102 : decode cX12_contest 102 = .ok (.aload_n 0, 1) := by decide +kernel
theorem dX12_contest_103 : decode cX12_contest 103 = .ok (.iconst 5, 1) := by decide +kernel
theorem dX12_contest_104 : decode cX12_contest 104 = .ok (.iload_n 1, 1) := by decide +kernel
theorem dX12_contest_105 : decode cX12_contest 105 = .ok (.aload_n 0, 1) := by decide +kernel
theorem dX12_contest_106 : decode cX12_contest 106 = .ok (.iload_n 1, 1) := by decide +kernel
theorem dX12_contest_107 : decode cX12_contest 107 = .ok (.iconst 2, 1) := by decide +kernel
theorem dX12_contest_108 : decode cX12_contest 108 = .ok (.invokevirtual 81, 3) := by decide +kernel
theorem dX12_contest_111 : decode cX12_contest 111 = .ok (.invokevirtual 138, 3) := by decide +kernel
theorem dX12_contest_114 : decode cX12_contest 114 = .ok (.iload_n 3, 1) := by decide +kernel
theorem dX12_contest_115 : decode cX12_contest 115 = .ok (.ireturn, 1) := by decide +kernel
theorem dX12_close_0 : decode cX12_close 0 = .ok (.aload_n 0, 1) := by decide +kernel
theorem dX12_close_1 : decode cX12_close 1 = .ok (.invokevirtual 115, 3) := by decide +kernel
theorem dX12_close_4 : decode cX12_close 4 = .ok (.ifCond .ne 6, 3) := by decide +kernel
theorem dX12_close_7 : decode cX12_close 7 = .ok (.bipush (-5), 2) := by decide +kernel
theorem dX12_close_9 : decode cX12_close 9 = .ok (.ireturn, 1) := by decide +kernel
theorem dX12_close_10 : decode cX12_close 10 = .ok (.aload_n 0, 1) := by decide +kernel
theorem dX12_close_11 : decode cX12_close 11 = .ok (.invokevirtual 262, 3) := by decide +kernel
theorem dX12_close_14 : decode cX12_close 14 = .ok (.aload_n 0, 1) := by decide +kernel
theorem dX12_close_15 : decode cX12_close 15 = .ok (.getfield 30, 3) := by decide +kernel
theorem dX12_close_18 : decode cX12_close 18 = .ok (.iconst 4, 1) := by decide +kernel
theorem dX12_close_19 : decode cX12_close 19 = .ok (.aload_n 0, 1) := by decide +kernel
theorem dX12_close_20 : decode cX12_close 20 = .ok (.iconst 0, 1) := by decide +kernel
theorem dX12_close_21 : decode cX12_close 21 = .ok (.invokevirtual 122, 3) := by decide +kernel
theorem dX12_close_24 : decode cX12_close 24 = .ok (.iastore, 1) := by decide +kernel
theorem dX12_close_25 : decode cX12_close 25 = .ok (.aload_n 0, 1) := by decide +kernel
theorem dX12_close_26 : decode cX12_close 26 = .ok (.getfield 30, 3) := by decide +kernel
theorem dX12_close_29 : decode cX12_close 29 = .ok (.iconst 2, 1) := by decide +kernel
theorem dX12_close_30 : decode cX12_close 30 = .ok (.iconst 0, 1) := by decide +kernel
theorem dX12_close_31 : decode cX12_close 31 = .ok (.iastore, 1) := by decide +kernel
theorem dX12_close_32 : decode cX12_close 32 = .ok (.aload_n 0, 1) := by decide +kernel
theorem dX12_close_33 : decode cX12_close 33 = .ok (.getfield 30, 3) := by decide +kernel
theorem dX12_close_36 : decode cX12_close 36 = .ok (.iconst 5, 1) := by decide +kernel
theorem dX12_close_37 : decode cX12_close 37 = .ok (.aload_n 0, 1) := by decide +kernel
theorem dX12_close_38 : decode cX12_close 38 = .ok (.getfield 30, 3) := by decide +kernel
theorem dX12_close_41 : decode cX12_close 41 = .ok (.iconst 0, 1) := by decide +kernel
theorem dX12_close_42 : decode cX12_close 42 = .ok (.iaload, 1) := by decide +kernel
theorem dX12_close_43 : decode cX12_close 43 = .ok (.iastore, 1) := by decide +kernel
theorem dX12_close_44 : decode cX12_close 44 = .ok (.aload_n 0, 1) := by decide +kernel
theorem dX12_close_45 : decode cX12_close 45 = .ok (.invokevirtual 141, 3) := by decide +kernel
theorem dX12_close_48 : decode cX12_close 48 = .ok (.aload_n 0, 1) := by decide +kernel
theorem dX12_close_49 : decode cX12_close 49 = .ok (.bipush 6, 2) := by decide +kernel
theorem dX12_close_51 : decode cX12_close 51 = .ok (.aload_n 0, 1) := by decide +kernel
theorem dX12_close_52 : decode cX12_close 52 = .ok (.getfield 30, 3) := by decide +kernel
theorem dX12_close_55 : decode cX12_close 55 = .ok (.iconst 1, 1) := by decide +kernel
theorem dX12_close_56 : decode cX12_close 56 = .ok (.iaload, 1) := by decide +kernel
theorem dX12_close_57 : decode cX12_close 57 = .ok (.iconst 1, 1) := by decide +kernel
theorem dX12_close_58 : decode cX12_close 58 = .ok (.isub, 1) := by decide +kernel
theorem dX12_close_59 : decode cX12_close 59 = .ok (.aload_n 0, 1) := by decide +kernel
theorem dX12_close_60 : decode cX12_close 60 = .ok (.invokevirtual 135, 3) := by decide +kernel
theorem dX12_close_63 : decode cX12_close 63 = .ok (.invokestatic 144, 3) := by decide +kernel
theorem dX12_close_66 : decode cX12_close 66 = .ok (.invokevirtual 138, 3) := by decide +kernel
theorem dX12_close_69 : decode cX12_close 69 = .ok (.aload_n 0, 1) := by decide +kernel
theorem dX12_close_70 : decode cX12_close 70 = .ok (.invokevirtual 132, 3) := by decide +kernel
theorem dX12_close_73 : decode cX12_close 73 = .ok (.ireturn, 1) := by decide +kernel
theorem dX12_recount_0 : decode cX12_recount 0 = .ok (.aload_n 0, 1) := by decide +kernel
theorem dX12_recount_1 : decode cX12_recount 1 = .ok (.invokevirtual 119, 3) := by decide +kernel
theorem dX12_recount_4 : decode cX12_recount 4 = .ok (.ifCond .eq 27, 3) := by decide +kernel
theorem dX12_recount_7 : decode cX12_recount 7 = .ok (.aload_n 0, 1) := by decide +kernel
theorem dX12_recount_8 : decode cX12_recount 8 = .ok (.invokevirtual 294, 3) := by decide +kernel
theorem dX12_recount_11 : decode cX12_recount 11 = .ok (.ifCond .eq 20, 3) := by decide +kernel
theorem dX12_recount_14 : decode cX12_recount 14 = .ok (.aload_n 0, 1) := by decide +kernel
theorem dX12_recount_15 : decode cX12_recount 15 = .ok (.getfield 30, 3) := by decide +kernel
theorem dX12_recount_18 : decode cX12_recount 18 = .ok (.bipush 6, 2) := by decide +kernel
theorem dX12_recount_20 : decode cX12_recount 20 = .ok (.iaload, 1) := by decide +kernel
theorem dX12_recount_21 : decode cX12_recount 21 = .ok (.aload_n 0, 1) := by decide +kernel
theorem dX12_recount_22 : decode cX12_recount 22 = .ok (.getfield 17, 3) := by decide +kernel
theorem dX12_recount_25 : decode cX12_recount 25 = .ok (.bipush 9, 2) := by decide +kernel
theorem dX12_recount_27 : decode cX12_recount 27 = .ok (.iaload, 1) := by decide +kernel
theorem dX12_recount_28 : decode cX12_recount 28 = .ok (.if_icmp .ne 6, 3) := by decide +kernel
theorem dX12_recount_31 : decode cX12_recount 31 = .ok (.bipush (-5), 2) := by decide +kernel
theorem dX12_recount_33 : decode cX12_recount 33 = .ok (.ireturn, 1) := by decide +kernel
theorem dX12_recount_34 : decode cX12_recount 34 = .ok (.aload_n 0, 1) := by decide +kernel
theorem dX12_recount_35 : decode cX12_recount 35 = .ok (.invokevirtual 262, 3) := by decide +kernel
theorem dX12_recount_38 : decode cX12_recount 38 = .ok (.aload_n 0, 1) := by decide +kernel
theorem dX12_recount_39 : decode cX12_recount 39 = .ok (.getfield 30, 3) := by decide +kernel
theorem dX12_recount_42 : decode cX12_recount 42 = .ok (.bipush 6, 2) := by decide +kernel
theorem dX12_recount_44 : decode cX12_recount 44 = .ok (.dup2, 1) := by decide +kernel
theorem dX12_recount_45 : decode cX12_recount 45 = .ok (.iaload, 1) := by decide +kernel
theorem dX12_recount_46 : decode cX12_recount 46 = .ok (.iconst 1, 1) := by decide +kernel
theorem dX12_recount_47 : decode cX12_recount 47 = .ok (.iadd, 1) := by decide +kernel
theorem dX12_recount_48 : decode cX12_recount 48 = .ok (.iastore, 1) := by decide +kernel
theorem dX12_recount_49 : decode cX12_recount 49 = .ok (.aload_n 0, 1) := by decide +kernel
theorem dX12_recount_50 : decode cX12_recount 50 = .ok (.invokevirtual 300, 3) := by decide +kernel
theorem dX12_recount_53 : decode cX12_recount 53 = .ok (.istore_n 1, 1) := by decide +kernel
theorem dX12_recount_54 : decode cX12_recount 54 = .ok (.aload_n 0, 1) := by decide +kernel
theorem dX12_recount_55 : decode cX12_recount 55 = .ok (.iload_n 1, 1) := by decide +kernel
theorem dX12_recount_56 : decode cX12_recount 56 = .ok (.invokevirtual 297, 3) := by decide +kernel
theorem dX12_recount_59 : decode cX12_recount 59 = .ok (.iload_n 1, 1) := by decide +kernel
theorem dX12_recount_60 : decode cX12_recount 60 = .ok (.invokestatic 103, 3) := by decide +kernel
theorem dX12_recount_63 : decode cX12_recount 63 = .ok (.ireturn, 1) := by decide +kernel
theorem dX12_pass_0 : decode cX12_pass 0 = .ok (.iload_n 1, 1) := by decide +kernel
theorem dX12_pass_1 : decode cX12_pass 1 = .ok (.i2l, 1) := by decide +kernel
theorem dX12_pass_2 : decode cX12_pass 2 = .ok (.lconst 1, 1) := by decide +kernel
theorem dX12_pass_3 : decode cX12_pass 3 = .ok (.ldc2_w 260, 3) := by decide +kernel
theorem dX12_pass_6 : decode cX12_pass 6 = .ok (.invokestatic 72, 3) := by decide +kernel
theorem dX12_pass_9 : decode cX12_pass 9 = .ok (.ifCond .ne 5, 3) := by decide +kernel
theorem dX12_pass_12 : decode cX12_pass 12 = .ok (.iconst (-1), 1) := by decide +kernel
theorem dX12_pass_13 : decode cX12_pass 13 = .ok (.ireturn, 1) := by decide +kernel
theorem dX12_pass_14 : decode cX12_pass 14 = .ok (.aload_n 0, 1) := by decide +kernel
theorem dX12_pass_15 : decode cX12_pass 15 = .ok (.invokevirtual 262, 3) := by decide +kernel
theorem dX12_pass_18 : decode cX12_pass 18 = .ok (.iconst 0, 1) := by decide +kernel
theorem dX12_pass_19 : decode cX12_pass 19 = .ok (.istore_n 2, 1) := by decide +kernel
theorem dX12_pass_20 : decode cX12_pass 20 = .ok (.iconst 0, 1) := by decide +kernel
theorem dX12_pass_21 : decode cX12_pass 21 = .ok (.istore_n 3, 1) := by decide +kernel
theorem dX12_pass_22 : decode cX12_pass 22 = .ok (.iload_n 3, 1) := by decide +kernel
theorem dX12_pass_23 : decode cX12_pass 23 = .ok (.iload_n 1, 1) := by decide +kernel
theorem dX12_pass_24 : decode cX12_pass 24 = .ok (.if_icmp .ge 16, 3) := by decide +kernel
theorem dX12_pass_27 : decode cX12_pass 27 = .ok (.iload_n 2, 1) := by decide +kernel
theorem dX12_pass_28 : decode cX12_pass 28 = .ok (.aload_n 0, 1) := by decide +kernel
theorem dX12_pass_29 : decode cX12_pass 29 = .ok (.invokevirtual 303, 3) := by decide +kernel
theorem dX12_pass_32 : decode cX12_pass 32 = .ok (.iadd, 1) := by decide +kernel
theorem dX12_pass_33 : decode cX12_pass 33 = .ok (.istore_n 2, 1) := by decide +kernel
theorem dX12_pass_34 : decode cX12_pass 34 = .ok (.iinc 3 1, 3) := by decide +kernel
theorem dX12_pass_37 : decode cX12_pass 37 = .ok (.goto (-15), 3) := by decide +kernel
theorem dX12_pass_40 : decode cX12_pass 40 = .ok (.iload_n 2, 1) := by decide +kernel
theorem dX12_pass_41 : decode cX12_pass 41 = .ok (.ireturn, 1) := by decide +kernel
theorem dX12_keep_0 : decode cX12_keep 0 = .ok (.iload_n 1, 1) := by decide +kernel
theorem dX12_keep_1 : decode cX12_keep 1 = .ok (.i2l, 1) := by decide +kernel
theorem dX12_keep_2 : decode cX12_keep 2 = .ok (.lconst 0, 1) := by decide +kernel
theorem dX12_keep_3 : decode cX12_keep 3 = .ok (.lconst 1, 1) := by decide +kernel
theorem dX12_keep_4 : decode cX12_keep 4 = .ok (.invokestatic 72, 3) := by decide +kernel
theorem dX12_keep_7 : decode cX12_keep 7 = .ok (.ifCond .ne 5, 3) := by decide +kernel
theorem dX12_keep_10 : decode cX12_keep 10 = .ok (.iconst (-1), 1) := by decide +kernel
theorem dX12_keep_11 : decode cX12_keep 11 = .ok (.ireturn, 1) := by decide +kernel
theorem dX12_keep_12 : decode cX12_keep 12 = .ok (.iconst 0, 1) := by decide +kernel
theorem dX12_keep_13 : decode cX12_keep 13 = .ok (.istore_n 2, 1) := by decide +kernel
theorem dX12_keep_14 : decode cX12_keep 14 = .ok (.iload_n 2, 1) := by decide +kernel
theorem dX12_keep_15 : decode cX12_keep 15 = .ok (.sipush 399, 3) := by decide +kernel
theorem dX12_keep_18 : decode cX12_keep 18 = .ok (.if_icmp .ge 27, 3) := by decide +kernel
theorem dX12_keep_21 : decode cX12_keep 21 = .ok (.aload_n 0, 1) := by decide +kernel
theorem dX12_keep_22 : decode cX12_keep 22 = .ok (.getfield 36, 3) := by decide +kernel
theorem dX12_keep_25 : decode cX12_keep 25 = .ok (.sipush 399, 3) := by decide +kernel
theorem dX12_keep_28 : decode cX12_keep 28 = .ok (.iload_n 1, 1) := by decide +kernel
theorem dX12_keep_29 : decode cX12_keep 29 = .ok (.imul, 1) := by decide +kernel
theorem dX12_keep_30 : decode cX12_keep 30 = .ok (.iload_n 2, 1) := by decide +kernel
theorem dX12_keep_31 : decode cX12_keep 31 = .ok (.iadd, 1) := by decide +kernel
theorem dX12_keep_32 : decode cX12_keep 32 = .ok (.aload_n 0, 1) := by decide +kernel
theorem dX12_keep_33 : decode cX12_keep 33 = .ok (.getfield 30, 3) := by decide +kernel
theorem dX12_keep_36 : decode cX12_keep 36 = .ok (.iload_n 2, 1) := by decide +kernel
theorem dX12_keep_37 : decode cX12_keep 37 = .ok (.iaload, 1) := by decide +kernel
theorem dX12_keep_38 : decode cX12_keep 38 = .ok (.iastore, 1) := by decide +kernel
theorem dX12_keep_39 : decode cX12_keep 39 = .ok (.iinc 2 1, 3) := by decide +kernel
theorem dX12_keep_42 : decode cX12_keep 42 = .ok (.goto (-28), 3) := by decide +kernel
theorem dX12_keep_45 : decode cX12_keep 45 = .ok (.aload_n 0, 1) := by decide +kernel
theorem dX12_keep_46 : decode cX12_keep 46 = .ok (.getfield 39, 3) := by decide +kernel
theorem dX12_keep_49 : decode cX12_keep 49 = .ok (.iload_n 1, 1) := by decide +kernel
theorem dX12_keep_50 : decode cX12_keep 50 = .ok (.iconst 1, 1) := by decide +kernel
theorem dX12_keep_51 : decode cX12_keep 51 = .ok (.bastore, 1) := by decide +kernel
theorem dX12_keep_52 : decode cX12_keep 52 = .ok (.aload_n 0, 1) := by decide +kernel
theorem dX12_keep_53 : decode cX12_keep 53 = .ok (.getfield 30, 3) := by decide +kernel
theorem dX12_keep_56 : decode cX12_keep 56 = .ok (.iconst 0, 1) := by decide +kernel
theorem dX12_keep_57 : decode cX12_keep 57 = .ok (.iaload, 1) := by decide +kernel
theorem dX12_keep_58 : decode cX12_keep 58 = .ok (.ireturn, 1) := by decide +kernel
theorem dX12_restore_0 : decode cX12_restore 0 = .ok (.iload_n 1, 1) := by decide +kernel
theorem dX12_restore_1 : decode cX12_restore 1 = .ok (.i2l, 1) := by decide +kernel
theorem dX12_restore_2 : decode cX12_restore 2 = .ok (.lconst 0, 1) := by decide +kernel
theorem dX12_restore_3 : decode cX12_restore 3 = .ok (.lconst 1, 1) := by decide +kernel
theorem dX12_restore_4 : decode cX12_restore 4 = .ok (.invokestatic 72, 3) := by decide +kernel
theorem dX12_restore_7 : decode cX12_restore 7 = .ok (.ifCond .ne 5, 3) := by decide +kernel
theorem dX12_restore_10 : decode cX12_restore 10 = .ok (.iconst (-1), 1) := by decide +kernel
theorem dX12_restore_11 : decode cX12_restore 11 = .ok (.ireturn, 1) := by decide +kernel
theorem dX12_restore_12 : decode cX12_restore 12 = .ok (.aload_n 0, 1) := by decide +kernel
theorem dX12_restore_13 : decode cX12_restore 13 = .ok (.getfield 39, 3) := by decide +kernel
theorem dX12_restore_16 : decode cX12_restore 16 = .ok (.iload_n 1, 1) := by decide +kernel
theorem dX12_restore_17 : decode cX12_restore 17 = .ok (.baload, 1) := by decide +kernel
theorem dX12_restore_18 : decode cX12_restore 18 = .ok (.ifCond .ne 6, 3) := by decide +kernel
theorem dX12_restore_21 : decode cX12_restore 21 = .ok (.bipush (-2), 2) := by decide +kernel
theorem dX12_restore_23 : decode cX12_restore 23 = .ok (.ireturn, 1) := by decide +kernel
theorem dX12_restore_24 : decode cX12_restore 24 = .ok (.aload_n 0, 1) := by decide +kernel
theorem dX12_restore_25 : decode cX12_restore 25 = .ok (.invokevirtual 262, 3) := by decide +kernel
theorem dX12_restore_28 : decode cX12_restore 28 = .ok (.iconst 0, 1) := by decide +kernel
theorem dX12_restore_29 : decode cX12_restore 29 = .ok (.istore_n 2, 1) := by decide +kernel
theorem dX12_restore_30 : decode cX12_restore 30 = .ok (.iload_n 2, 1) := by decide +kernel
theorem dX12_restore_31 : decode cX12_restore 31 = .ok (.sipush 399, 3) := by decide +kernel
theorem dX12_restore_34 : decode cX12_restore 34 = .ok (.if_icmp .ge 27, 3) := by decide +kernel
theorem dX12_restore_37 : decode cX12_restore 37 = .ok (.aload_n 0, 1) := by decide +kernel
theorem dX12_restore_38 : decode cX12_restore 38 = .ok (.getfield 30, 3) := by decide +kernel
theorem dX12_restore_41 : decode cX12_restore 41 = .ok (.iload_n 2, 1) := by decide +kernel
theorem dX12_restore_42 : decode cX12_restore 42 = .ok (.aload_n 0, 1) := by decide +kernel
theorem dX12_restore_43 : decode cX12_restore 43 = .ok (.getfield 36, 3) := by decide +kernel
theorem dX12_restore_46 : decode cX12_restore 46 = .ok (.sipush 399, 3) := by decide +kernel
theorem dX12_restore_49 : decode cX12_restore 49 = .ok (.iload_n 1, 1) := by decide +kernel
theorem dX12_restore_50 : decode cX12_restore 50 = .ok (.imul, 1) := by decide +kernel
theorem dX12_restore_51 : decode cX12_restore 51 = .ok (.iload_n 2, 1) := by decide +kernel
theorem dX12_restore_52 : decode cX12_restore 52 = .ok (.iadd, 1) := by decide +kernel
theorem dX12_restore_53 : decode cX12_restore 53 = .ok (.iaload, 1) := by decide +kernel
theorem dX12_restore_54 : decode cX12_restore 54 = .ok (.iastore, 1) := by decide +kernel
theorem dX12_restore_55 : decode cX12_restore 55 = .ok (.iinc 2 1, 3) := by decide +kernel
theorem dX12_restore_58 : decode cX12_restore 58 = .ok (.goto (-28), 3) := by decide +kernel
theorem dX12_restore_61 : decode cX12_restore 61 = .ok (.aload_n 0, 1) := by decide +kernel
theorem dX12_restore_62 : decode cX12_restore 62 = .ok (.getfield 30, 3) := by decide +kernel
theorem dX12_restore_65 : decode cX12_restore 65 = .ok (.iconst 0, 1) := by decide +kernel
theorem dX12_restore_66 : decode cX12_restore 66 = .ok (.iaload, 1) := by decide +kernel
theorem dX12_restore_67 : decode cX12_restore 67 = .ok (.ireturn, 1) := by decide +kernel
theorem dX12_atSeaMany_0 : decode cX12_atSeaMany 0 = .ok (.iconst 0, 1) := by decide +kernel
theorem dX12_atSeaMany_1 : decode cX12_atSeaMany 1 = .ok (.istore_n 1, 1) := by decide +kernel
theorem dX12_atSeaMany_2 : decode cX12_atSeaMany 2 = .ok (.iconst 0, 1) := by decide +kernel
theorem dX12_atSeaMany_3 : decode cX12_atSeaMany 3 = .ok (.istore_n 2, 1) := by decide +kernel
theorem dX12_atSeaMany_4 : decode cX12_atSeaMany 4 = .ok (.iload_n 2, 1) := by decide +kernel
theorem dX12_atSeaMany_5 : decode cX12_atSeaMany 5 = .ok (.aload_n 0, 1) := by decide +kernel
theorem dX12_atSeaMany_6 : decode cX12_atSeaMany 6 = .ok (.getfield 55, 3) := by decide +kernel
theorem dX12_atSeaMany_9 : decode cX12_atSeaMany 9 = .ok (.if_icmp .ge 25, 3) := by decide +kernel
theorem dX12_atSeaMany_12 : decode cX12_atSeaMany 12 = .ok (.iload_n 1, 1) := by decide +kernel
theorem dX12_atSeaMany_13 : decode cX12_atSeaMany 13 = .ok (.aload_n 0, 1) := by decide +kernel
theorem dX12_atSeaMany_14 : decode cX12_atSeaMany 14 = .ok (.iload_n 2, 1) := by decide +kernel
theorem dX12_atSeaMany_15 : decode cX12_atSeaMany 15 = .ok (.invokevirtual 91, 3) := by decide +kernel
theorem dX12_atSeaMany_18 : decode cX12_atSeaMany 18 = .ok (.ifCond .eq 7, 3) := by decide +kernel
theorem dX12_atSeaMany_21 : decode cX12_atSeaMany 21 = .ok (.iconst 1, 1) := by decide +kernel
theorem dX12_atSeaMany_22 : decode cX12_atSeaMany 22 = .ok (.goto 4, 3) := by decide +kernel
theorem dX12_atSeaMany_25 : decode cX12_atSeaMany 25 = .ok (.iconst 0, 1) := by decide +kernel
theorem dX12_atSeaMany_26 : decode cX12_atSeaMany 26 = .ok (.iadd, 1) := by decide +kernel
theorem dX12_atSeaMany_27 : decode cX12_atSeaMany 27 = .ok (.istore_n 1, 1) := by decide +kernel
theorem dX12_atSeaMany_28 : decode cX12_atSeaMany 28 = .ok (.iinc 2 1, 3) := by decide +kernel
theorem dX12_atSeaMany_31 : decode cX12_atSeaMany 31 = .ok (.goto (-27), 3) := by decide +kernel
theorem dX12_atSeaMany_34 : decode cX12_atSeaMany 34 = .ok (.iload_n 1, 1) := by decide +kernel
theorem dX12_atSeaMany_35 : decode cX12_atSeaMany 35 = .ok (.ireturn, 1) := by decide +kernel
theorem dX12_stateOf_0 : decode cX12_stateOf 0 = .ok (.aload_n 0, 1) := by decide +kernel
theorem dX12_stateOf_1 : decode cX12_stateOf 1 = .ok (.getfield 30, 3) := by decide +kernel
theorem dX12_stateOf_4 : decode cX12_stateOf 4 = .ok (.iconst 1, 1) := by decide +kernel
theorem dX12_stateOf_5 : decode cX12_stateOf 5 = .ok (.iaload, 1) := by decide +kernel
theorem dX12_stateOf_6 : decode cX12_stateOf 6 = .ok (.ifCond .ne 7, 3) := by decide +kernel
theorem dX12_stateOf_9 : decode cX12_stateOf 9 = .ok (.iconst 0, 1) := by decide +kernel
theorem dX12_stateOf_10 : decode cX12_stateOf 10 = .ok (.goto 26, 3) := by decide +kernel
theorem dX12_stateOf_13 : decode cX12_stateOf 13 = .ok (.aload_n 0, 1) := by decide +kernel
theorem dX12_stateOf_14 : decode cX12_stateOf 14 = .ok (.invokevirtual 115, 3) := by decide +kernel
theorem dX12_stateOf_17 : decode cX12_stateOf 17 = .ok (.ifCond .eq 7, 3) := by decide +kernel
theorem dX12_stateOf_20 : decode cX12_stateOf 20 = .ok (.iconst 1, 1) := by decide +kernel
theorem dX12_stateOf_21 : decode cX12_stateOf 21 = .ok (.goto 15, 3) := by decide +kernel
theorem dX12_stateOf_24 : decode cX12_stateOf 24 = .ok (.aload_n 0, 1) := by decide +kernel
theorem dX12_stateOf_25 : decode cX12_stateOf 25 = .ok (.invokevirtual 294, 3) := by decide +kernel
theorem dX12_stateOf_28 : decode cX12_stateOf 28 = .ok (.ifCond .eq 7, 3) := by decide +kernel
theorem dX12_stateOf_31 : decode cX12_stateOf 31 = .ok (.iconst 2, 1) := by decide +kernel
theorem dX12_stateOf_32 : decode cX12_stateOf 32 = .ok (.goto 4, 3) := by decide +kernel
theorem dX12_stateOf_35 : decode cX12_stateOf 35 = .ok (.iconst 3, 1) := by decide +kernel
theorem dX12_stateOf_36 : decode cX12_stateOf 36 = .ok (.ireturn, 1) := by decide +kernel
theorem dX12_value_0 : decode cX12_value 0 = .ok (.iload_n 1, 1) := by decide +kernel
theorem dX12_value_1 : decode cX12_value 1 = .ok (.tableswitch 217 0 16 #[83, 90, 106, 111, 116, 127, 132, 137, 142, 147, 154, 171, 176, 184, 191, 199, 209], 83) := by decide +kernel
theorem dX12_value_84 : decode cX12_value 84 = .ok (.aload_n 0, 1) := by decide +kernel
theorem dX12_value_85 : decode cX12_value 85 = .ok (.getfield 30, 3) := by decide +kernel
theorem dX12_value_88 : decode cX12_value 88 = .ok (.iconst 0, 1) := by decide +kernel
theorem dX12_value_89 : decode cX12_value 89 = .ok (.iaload, 1) := by decide +kernel
theorem dX12_value_90 : decode cX12_value 90 = .ok (.ireturn, 1) := by decide +kernel
theorem dX12_value_91 : decode cX12_value 91 = .ok (.aload_n 0, 1) := by decide +kernel
theorem dX12_value_92 : decode cX12_value 92 = .ok (.getfield 30, 3) := by decide +kernel
theorem dX12_value_95 : decode cX12_value 95 = .ok (.iconst 0, 1) := by decide +kernel
theorem dX12_value_96 : decode cX12_value 96 = .ok (.iaload, 1) := by decide +kernel
theorem dX12_value_97 : decode cX12_value 97 = .ok (.aload_n 0, 1) := by decide +kernel
theorem dX12_value_98 : decode cX12_value 98 = .ok (.getfield 17, 3) := by decide +kernel
theorem dX12_value_101 : decode cX12_value 101 = .ok (.iconst 0, 1) := by decide +kernel
theorem dX12_value_102 : decode cX12_value 102 = .ok (.iaload, 1) := by decide +kernel
theorem dX12_value_103 : decode cX12_value 103 = .ok (.idiv, 1) := by decide +kernel
theorem dX12_value_104 : decode cX12_value 104 = .ok (.iconst 4, 1) := by decide +kernel
theorem dX12_value_105 : decode cX12_value 105 = .ok (.irem, 1) := by decide +kernel
theorem dX12_value_106 : decode cX12_value 106 = .ok (.ireturn, 1) := by decide +kernel
theorem dX12_value_107 : decode cX12_value 107 = .ok (.aload_n 0, 1) := by decide +kernel
theorem dX12_value_108 : decode cX12_value 108 = .ok (.getfield 55, 3) := by decide +kernel
theorem dX12_value_111 : decode cX12_value 111 = .ok (.ireturn, 1) := by decide +kernel
theorem dX12_value_112 : decode cX12_value 112 = .ok (.aload_n 0, 1) := by decide +kernel
theorem dX12_value_113 : decode cX12_value 113 = .ok (.getfield 76, 3) := by decide +kernel
theorem dX12_value_116 : decode cX12_value 116 = .ok (.ireturn, 1) := by decide +kernel
theorem dX12_value_117 : decode cX12_value 117 = .ok (.aload_n 0, 1) := by decide +kernel
theorem dX12_value_118 : decode cX12_value 118 = .ok (.aload_n 0, 1) := by decide +kernel
theorem dX12_value_119 : decode cX12_value 119 = .ok (.getfield 30, 3) := by decide +kernel
theorem dX12_value_122 : decode cX12_value 122 = .ok (.iconst 0, 1) := by decide +kernel
theorem dX12_value_123 : decode cX12_value 123 = .ok (.iaload, 1) := by decide +kernel
theorem dX12_value_124 : decode cX12_value 124 = .ok (.invokevirtual 109, 3) := by decide +kernel
theorem dX12_value_127 : decode cX12_value 127 = .ok (.ireturn, 1) := by decide +kernel
theorem dX12_value_128 : decode cX12_value 128 = .ok (.aload_n 0, 1) := by decide +kernel
theorem dX12_value_129 : decode cX12_value 129 = .ok (.invokevirtual 306, 3) := by decide +kernel
theorem dX12_value_132 : decode cX12_value 132 = .ok (.ireturn, 1) := by decide +kernel
theorem dX12_value_133 : decode cX12_value 133 = .ok (.aload_n 0, 1) := by decide +kernel
theorem dX12_value_134 : decode cX12_value 134 = .ok (.invokevirtual 125, 3) := by decide +kernel
theorem dX12_value_137 : decode cX12_value 137 = .ok (.ireturn, 1) := by decide +kernel
theorem dX12_value_138 : decode cX12_value 138 = .ok (.aload_n 0, 1) := by decide +kernel
theorem dX12_value_139 : decode cX12_value 139 = .ok (.invokevirtual 132, 3) := by decide +kernel
theorem dX12_value_142 : decode cX12_value 142 = .ok (.ireturn, 1) := by decide +kernel
theorem dX12_value_143 : decode cX12_value 143 = .ok (.aload_n 0, 1) := by decide +kernel
theorem dX12_value_144 : decode cX12_value 144 = .ok (.invokevirtual 309, 3) := by decide +kernel
theorem dX12_value_147 : decode cX12_value 147 = .ok (.ireturn, 1) := by decide +kernel
theorem dX12_value_148 : decode cX12_value 148 = .ok (.aload_n 0, 1) := by decide +kernel
theorem dX12_value_149 : decode cX12_value 149 = .ok (.getfield 30, 3) := by decide +kernel
theorem dX12_value_152 : decode cX12_value 152 = .ok (.iconst 3, 1) := by decide +kernel
theorem dX12_value_153 : decode cX12_value 153 = .ok (.iaload, 1) := by decide +kernel
theorem dX12_value_154 : decode cX12_value 154 = .ok (.ireturn, 1) := by decide +kernel
theorem dX12_value_155 : decode cX12_value 155 = .ok (.aload_n 0, 1) := by decide +kernel
theorem dX12_value_156 : decode cX12_value 156 = .ok (.invokevirtual 119, 3) := by decide +kernel
theorem dX12_value_159 : decode cX12_value 159 = .ok (.ifCond .eq 10, 3) := by decide +kernel
theorem dX12_value_162 : decode cX12_value 162 = .ok (.aload_n 0, 1) := by decide +kernel
theorem dX12_value_163 : decode cX12_value 163 = .ok (.invokevirtual 135, 3) := by decide +kernel
theorem dX12_value_166 : decode cX12_value 166 = .ok (.goto 5, 3) := by decide +kernel
theorem dX12_value_169 : decode cX12_value 169 = .ok (.bipush (-2), 2) := by decide +kernel
theorem dX12_value_171 : decode cX12_value 171 = .ok (.ireturn, 1) := by decide +kernel
theorem dX12_value_172 : decode cX12_value 172 = .ok (.aload_n 0, 1) := by decide +kernel
theorem dX12_value_173 : decode cX12_value 173 = .ok (.invokevirtual 312, 3) := by decide +kernel
theorem dX12_value_176 : decode cX12_value 176 = .ok (.ireturn, 1) := by decide +kernel
theorem dX12_value_177 : decode cX12_value 177 = .ok (.aload_n 0, 1) := by decide +kernel
theorem dX12_value_178 : decode cX12_value 178 = .ok (.getfield 30, 3) := by decide +kernel
theorem dX12_value_181 : decode cX12_value 181 = .ok (.bipush 6, 2) := by decide +kernel
theorem dX12_value_183 : decode cX12_value 183 = .ok (.iaload, 1) := by decide +kernel
theorem dX12_value_184 : decode cX12_value 184 = .ok (.ireturn, 1) := by decide +kernel
theorem dX12_value_185 : decode cX12_value 185 = .ok (.aload_n 0, 1) := by decide +kernel
theorem dX12_value_186 : decode cX12_value 186 = .ok (.getfield 30, 3) := by decide +kernel
theorem dX12_value_189 : decode cX12_value 189 = .ok (.iconst 1, 1) := by decide +kernel
theorem dX12_value_190 : decode cX12_value 190 = .ok (.iaload, 1) := by decide +kernel
theorem dX12_value_191 : decode cX12_value 191 = .ok (.ireturn, 1) := by decide +kernel
theorem dX12_value_192 : decode cX12_value 192 = .ok (.aload_n 0, 1) := by decide +kernel
theorem dX12_value_193 : decode cX12_value 193 = .ok (.getfield 30, 3) := by decide +kernel
theorem dX12_value_196 : decode cX12_value 196 = .ok (.bipush 8, 2) := by decide +kernel
theorem dX12_value_198 : decode cX12_value 198 = .ok (.iaload, 1) := by decide +kernel
theorem dX12_value_199 : decode cX12_value 199 = .ok (.ireturn, 1) := by decide +kernel
theorem dX12_value_200 : decode cX12_value 200 = .ok (.aload_n 0, 1) := by decide +kernel
theorem dX12_value_201 : decode cX12_value 201 = .ok (.getfield 55, 3) := by decide +kernel
theorem dX12_value_204 : decode cX12_value 204 = .ok (.aload_n 0, 1) := by decide +kernel
theorem dX12_value_205 : decode cX12_value 205 = .ok (.invokevirtual 306, 3) := by decide +kernel
theorem dX12_value_208 : decode cX12_value 208 = .ok (.isub, 1) := by decide +kernel
theorem dX12_value_209 : decode cX12_value 209 = .ok (.ireturn, 1) := by decide +kernel
theorem dX12_value_210 : decode cX12_value 210 = .ok (.aload_n 0, 1) := by decide +kernel
theorem dX12_value_211 : decode cX12_value 211 = .ok (.invokevirtual 300, 3) := by decide +kernel
theorem dX12_value_214 : decode cX12_value 214 = .ok (.invokestatic 103, 3) := by decide +kernel
theorem dX12_value_217 : decode cX12_value 217 = .ok (.ireturn, 1) := by decide +kernel
theorem dX12_value_218 : decode cX12_value 218 = .ok (.iconst (-1), 1) := by decide +kernel
theorem dX12_value_219 : decode cX12_value 219 = .ok (.ireturn, 1) := by decide +kernel
theorem dX12_person_0 : decode cX12_person 0 = .ok (.aload_n 0, 1) := by decide +kernel
theorem dX12_person_1 : decode cX12_person 1 = .ok (.iload_n 1, 1) := by decide +kernel
theorem dX12_person_2 : decode cX12_person 2 = .ok (.invokevirtual 265, 3) := by decide +kernel
theorem dX12_person_5 : decode cX12_person 5 = .ok (.ifCond .ne 5, 3) := by decide +kernel
theorem dX12_person_8 : decode cX12_person 8 = .ok (.iconst (-1), 1) := by decide +kernel
theorem dX12_person_9 : decode cX12_person 9 = .ok (.ireturn, 1) := by decide +kernel
theorem dX12_person_10 : decode cX12_person 10 = .ok (.iload_n 2, 1) := by decide +kernel
theorem dX12_person_11 : decode cX12_person 11 = .ok (.tableswitch 121 0 6 #[41, 48, 62, 91, 98, 107, 114], 41) := by decide +kernel
theorem dX12_person_52 : decode cX12_person 52 = .ok (.aload_n 0, 1) := by decide +kernel
theorem dX12_person_53 : decode cX12_person 53 = .ok (.iload_n 1, 1) := by decide +kernel
theorem dX12_person_54 : decode cX12_person 54 = .ok (.iconst 0, 1) := by decide +kernel
theorem dX12_person_55 : decode cX12_person 55 = .ok (.invokevirtual 81, 3) := by decide +kernel
theorem dX12_person_58 : decode cX12_person 58 = .ok (.ireturn, 1) := by decide +kernel
theorem dX12_person_59 : decode cX12_person 59 = .ok (.aload_n 0, 1) := by decide +kernel
theorem dX12_person_60 : decode cX12_person 60 = .ok (.iload_n 1, 1) := by decide +kernel
theorem dX12_person_61 : decode cX12_person 61 = .ok (.invokevirtual 91, 3) := by decide +kernel
theorem dX12_person_64 : decode cX12_person 64 = .ok (.ifCond .eq 7, 3) := by decide +kernel
theorem dX12_person_67 : decode cX12_person 67 = .ok (.iconst 1, 1) := by decide +kernel
theorem dX12_person_68 : decode cX12_person 68 = .ok (.goto 4, 3) := by decide +kernel
theorem dX12_person_71 : decode cX12_person 71 = .ok (.iconst 0, 1) := by decide +kernel
theorem dX12_person_72 : decode cX12_person 72 = .ok (.ireturn, 1) := by decide +kernel
theorem dX12_person_73 : decode cX12_person 73 = .ok (.aload_n 0, 1) := by decide +kernel
theorem dX12_person_74 : decode cX12_person 74 = .ok (.iload_n 1, 1) := by decide +kernel
theorem dX12_person_75 : decode cX12_person 75 = .ok (.invokevirtual 91, 3) := by decide +kernel
theorem dX12_person_78 : decode cX12_person 78 = .ok (.ifCond .eq 17, 3) := by decide +kernel
theorem dX12_person_81 : decode cX12_person 81 = .ok (.aload_n 0, 1) := by decide +kernel
theorem dX12_person_82 : decode cX12_person 82 = .ok (.aload_n 0, 1) := by decide +kernel
theorem dX12_person_83 : decode cX12_person 83 = .ok (.iload_n 1, 1) := by decide +kernel
theorem dX12_person_84 : decode cX12_person 84 = .ok (.iconst 1, 1) := by decide +kernel
theorem dX12_person_85 : decode cX12_person 85 = .ok (.invokevirtual 81, 3) := by decide +kernel
theorem dX12_person_88 : decode cX12_person 88 = .ok (.iconst 1, 1) := by decide +kernel
theorem dX12_person_89 : decode cX12_person 89 = .ok (.invokevirtual 85, 3) := by decide +kernel
theorem dX12_person_92 : decode cX12_person 92 = .ok (.goto 9, 3) := by decide +kernel
theorem dX12_person_95 : decode cX12_person 95 = .ok (.aload_n 0, 1) := by decide +kernel
theorem dX12_person_96 : decode cX12_person 96 = .ok (.getfield 30, 3) := by decide +kernel
theorem dX12_person_99 : decode cX12_person 99 = .ok (.iconst 0, 1) := by decide +kernel
theorem dX12_person_100 : decode cX12_person 100 = .ok (.iaload, 1) := by decide +kernel
theorem dX12_person_101 : decode cX12_person 101 = .ok (.ireturn, 1) := by decide +kernel
theorem dX12_person_102 : decode cX12_person 102 = .ok (.aload_n 0, 1) := by decide +kernel
theorem dX12_person_103 : decode cX12_person 103 = .ok (.iload_n 1, 1) := by decide +kernel
theorem dX12_person_104 : decode cX12_person 104 = .ok (.iconst 2, 1) := by decide +kernel
theorem dX12_person_105 : decode cX12_person 105 = .ok (.invokevirtual 81, 3) := by decide +kernel
theorem dX12_person_108 : decode cX12_person 108 = .ok (.ireturn, 1) := by decide +kernel
theorem dX12_person_109 : decode cX12_person 109 = .ok (.aload_n 0, 1) := by decide +kernel
theorem dX12_person_110 : decode cX12_person 110 = .ok (.iload_n 1, 1) := by decide +kernel
theorem dX12_person_111 : decode cX12_person 111 = .ok (.invokevirtual 281, 3) := by decide +kernel
theorem dX12_person_114 : decode cX12_person 114 = .ok (.invokestatic 103, 3) := by decide +kernel
theorem dX12_person_117 : decode cX12_person 117 = .ok (.ireturn, 1) := by decide +kernel
theorem dX12_person_118 : decode cX12_person 118 = .ok (.aload_n 0, 1) := by decide +kernel
theorem dX12_person_119 : decode cX12_person 119 = .ok (.iload_n 1, 1) := by decide +kernel
theorem dX12_person_120 : decode cX12_person 120 = .ok (.iconst 4, 1) := by decide +kernel
theorem dX12_person_121 : decode cX12_person 121 = .ok (.invokevirtual 81, 3) := by decide +kernel
theorem dX12_person_124 : decode cX12_person 124 = .ok (.ireturn, 1) := by decide +kernel
theorem dX12_person_125 : decode cX12_person 125 = .ok (.aload_n 0, 1) := by decide +kernel
theorem dX12_person_126 : decode cX12_person 126 = .ok (.iload_n 1, 1) := by decide +kernel
theorem dX12_person_127 : decode cX12_person 127 = .ok (.iconst 3, 1) := by decide +kernel
theorem dX12_person_128 : decode cX12_person 128 = .ok (.invokevirtual 81, 3) := by decide +kernel
theorem dX12_person_131 : decode cX12_person 131 = .ok (.ireturn, 1) := by decide +kernel
theorem dX12_person_132 : decode cX12_person 132 = .ok (.iconst (-1), 1) := by decide +kernel
theorem dX12_person_133 : decode cX12_person 133 = .ok (.ireturn, 1) := by decide +kernel
theorem dX12_manyOf_0 : decode cX12_manyOf 0 = .ok (.iconst 0, 1) := by decide +kernel
theorem dX12_manyOf_1 : decode cX12_manyOf 1 = .ok (.istore_n 3, 1) := by decide +kernel
theorem dX12_manyOf_2 : decode cX12_manyOf 2 = .ok (.iconst 0, 1) := by decide +kernel
theorem dX12_manyOf_3 : decode cX12_manyOf 3 = .ok (.istore 4, 2) := by decide +kernel
theorem dX12_manyOf_5 : decode cX12_manyOf 5 = .ok (.iload 4, 2) := by decide +kernel
theorem dX12_manyOf_7 : decode cX12_manyOf 7 = .ok (.aload_n 0, 1) := by decide +kernel
theorem dX12_manyOf_8 : decode cX12_manyOf 8 = .ok (.getfield 55, 3) := by decide +kernel
theorem dX12_manyOf_11 : decode cX12_manyOf 11 = .ok (.if_icmp .ge 28, 3) := by decide +kernel
theorem dX12_manyOf_14 : decode cX12_manyOf 14 = .ok (.iload_n 3, 1) := by decide +kernel
theorem dX12_manyOf_15 : decode cX12_manyOf 15 = .ok (.aload_n 0, 1) := by decide +kernel
theorem dX12_manyOf_16 : decode cX12_manyOf 16 = .ok (.iload 4, 2) := by decide +kernel
theorem dX12_manyOf_18 : decode cX12_manyOf 18 = .ok (.iload_n 1, 1) := by decide +kernel
theorem dX12_manyOf_19 : decode cX12_manyOf 19 = .ok (.invokevirtual 81, 3) := by decide +kernel
theorem dX12_manyOf_22 : decode cX12_manyOf 22 = .ok (.iload_n 2, 1) := by decide +kernel
theorem dX12_manyOf_23 : decode cX12_manyOf 23 = .ok (.if_icmp .ne 7, 3) := by decide +kernel
theorem dX12_manyOf_26 : decode cX12_manyOf 26 = .ok (.iconst 1, 1) := by decide +kernel
theorem dX12_manyOf_27 : decode cX12_manyOf 27 = .ok (.goto 4, 3) := by decide +kernel
theorem dX12_manyOf_30 : decode cX12_manyOf 30 = .ok (.iconst 0, 1) := by decide +kernel
theorem dX12_manyOf_31 : decode cX12_manyOf 31 = .ok (.iadd, 1) := by decide +kernel
theorem dX12_manyOf_32 : decode cX12_manyOf 32 = .ok (.istore_n 3, 1) := by decide +kernel
theorem dX12_manyOf_33 : decode cX12_manyOf 33 = .ok (.iinc 4 1, 3) := by decide +kernel
theorem dX12_manyOf_36 : decode cX12_manyOf 36 = .ok (.goto (-31), 3) := by decide +kernel
theorem dX12_manyOf_39 : decode cX12_manyOf 39 = .ok (.iload_n 3, 1) := by decide +kernel
theorem dX12_manyOf_40 : decode cX12_manyOf 40 = .ok (.ireturn, 1) := by decide +kernel
theorem dX12_boat_0 : decode cX12_boat 0 = .ok (.aload_n 0, 1) := by decide +kernel
theorem dX12_boat_1 : decode cX12_boat 1 = .ok (.iload_n 1, 1) := by decide +kernel
theorem dX12_boat_2 : decode cX12_boat 2 = .ok (.invokevirtual 257, 3) := by decide +kernel
theorem dX12_boat_5 : decode cX12_boat 5 = .ok (.ifCond .ne 5, 3) := by decide +kernel
theorem dX12_boat_8 : decode cX12_boat 8 = .ok (.iconst (-1), 1) := by decide +kernel
theorem dX12_boat_9 : decode cX12_boat 9 = .ok (.ireturn, 1) := by decide +kernel
theorem dX12_boat_10 : decode cX12_boat 10 = .ok (.iload_n 2, 1) := by decide +kernel
theorem dX12_boat_11 : decode cX12_boat 11 = .ok (.tableswitch 85 0 4 #[33, 40, 64, 71, 78], 33) := by decide +kernel
theorem dX12_boat_44 : decode cX12_boat 44 = .ok (.aload_n 0, 1) := by decide +kernel
theorem dX12_boat_45 : decode cX12_boat 45 = .ok (.iload_n 1, 1) := by decide +kernel
theorem dX12_boat_46 : decode cX12_boat 46 = .ok (.iconst 0, 1) := by decide +kernel
theorem dX12_boat_47 : decode cX12_boat 47 = .ok (.invokevirtual 85, 3) := by decide +kernel
theorem dX12_boat_50 : decode cX12_boat 50 = .ok (.ireturn, 1) := by decide +kernel
theorem dX12_boat_51 : decode cX12_boat 51 = .ok (.aload_n 0, 1) := by decide +kernel
theorem dX12_boat_52 : decode cX12_boat 52 = .ok (.iload_n 1, 1) := by decide +kernel
theorem dX12_boat_53 : decode cX12_boat 53 = .ok (.invokevirtual 106, 3) := by decide +kernel
theorem dX12_boat_56 : decode cX12_boat 56 = .ok (.ifCond .eq 12, 3) := by decide +kernel
theorem dX12_boat_59 : decode cX12_boat 59 = .ok (.aload_n 0, 1) := by decide +kernel
theorem dX12_boat_60 : decode cX12_boat 60 = .ok (.iload_n 1, 1) := by decide +kernel
theorem dX12_boat_61 : decode cX12_boat 61 = .ok (.iconst 1, 1) := by decide +kernel
theorem dX12_boat_62 : decode cX12_boat 62 = .ok (.invokevirtual 85, 3) := by decide +kernel
theorem dX12_boat_65 : decode cX12_boat 65 = .ok (.goto 9, 3) := by decide +kernel
theorem dX12_boat_68 : decode cX12_boat 68 = .ok (.aload_n 0, 1) := by decide +kernel
theorem dX12_boat_69 : decode cX12_boat 69 = .ok (.getfield 30, 3) := by decide +kernel
theorem dX12_boat_72 : decode cX12_boat 72 = .ok (.iconst 0, 1) := by decide +kernel
theorem dX12_boat_73 : decode cX12_boat 73 = .ok (.iaload, 1) := by decide +kernel
theorem dX12_boat_74 : decode cX12_boat 74 = .ok (.ireturn, 1) := by decide +kernel
theorem dX12_boat_75 : decode cX12_boat 75 = .ok (.aload_n 0, 1) := by decide +kernel
theorem dX12_boat_76 : decode cX12_boat 76 = .ok (.iconst 1, 1) := by decide +kernel
theorem dX12_boat_77 : decode cX12_boat 77 = .ok (.iload_n 1, 1) := by decide +kernel
theorem dX12_boat_78 : decode cX12_boat 78 = .ok (.invokevirtual 315, 3) := by decide +kernel
theorem dX12_boat_81 : decode cX12_boat 81 = .ok (.ireturn, 1) := by decide +kernel
theorem dX12_boat_82 : decode cX12_boat 82 = .ok (.aload_n 0, 1) := by decide +kernel
theorem dX12_boat_83 : decode cX12_boat 83 = .ok (.iconst 0, 1) := by decide +kernel
theorem dX12_boat_84 : decode cX12_boat 84 = .ok (.iload_n 1, 1) := by decide +kernel
theorem dX12_boat_85 : decode cX12_boat 85 = .ok (.invokevirtual 315, 3) := by decide +kernel
theorem dX12_boat_88 : decode cX12_boat 88 = .ok (.ireturn, 1) := by decide +kernel
theorem dX12_boat_89 : decode cX12_boat 89 = .ok (.aload_n 0, 1) := by decide +kernel
theorem dX12_boat_90 : decode cX12_boat 90 = .ok (.iload_n 1, 1) := by decide +kernel
theorem dX12_boat_91 : decode cX12_boat 91 = .ok (.iconst 2, 1) := by decide +kernel
theorem dX12_boat_92 : decode cX12_boat 92 = .ok (.invokevirtual 85, 3) := by decide +kernel
theorem dX12_boat_95 : decode cX12_boat 95 = .ok (.ireturn, 1) := by decide +kernel
theorem dX12_boat_96 : decode cX12_boat 96 = .ok (.iconst (-1), 1) := by decide +kernel
theorem dX12_boat_97 : decode cX12_boat 97 = .ok (.ireturn, 1) := by decide +kernel
theorem dX12_stick_0 : decode cX12_stick 0 = .ok (.aload_n 0, 1) := by decide +kernel
theorem dX12_stick_1 : decode cX12_stick 1 = .ok (.iload_n 1, 1) := by decide +kernel
theorem dX12_stick_2 : decode cX12_stick 2 = .ok (.invokevirtual 265, 3) := by decide +kernel
theorem dX12_stick_5 : decode cX12_stick 5 = .ok (.ifCond .eq 26, 3) := by decide +kernel
theorem dX12_stick_8 : decode cX12_stick 8 = .ok (.iload_n 2, 1) := by decide +kernel
theorem dX12_stick_9 : decode cX12_stick 9 = .ok (.i2l, 1) := by decide +kernel
theorem dX12_stick_10 : decode cX12_stick 10 = .ok (.lconst 0, 1) := by decide +kernel
theorem dX12_stick_11 : decode cX12_stick 11 = .ok (.ldc2_w 318, 3) := by decide +kernel
theorem dX12_stick_14 : decode cX12_stick 14 = .ok (.invokestatic 72, 3) := by decide +kernel
theorem dX12_stick_17 : decode cX12_stick 17 = .ok (.ifCond .eq 14, 3) := by decide +kernel
theorem dX12_stick_20 : decode cX12_stick 20 = .ok (.aload_n 0, 1) := by decide +kernel
theorem dX12_stick_21 : decode cX12_stick 21 = .ok (.iload_n 1, 1) := by decide +kernel
theorem dX12_stick_22 : decode cX12_stick 22 = .ok (.iconst 5, 1) := by decide +kernel
theorem dX12_stick_23 : decode cX12_stick 23 = .ok (.iload_n 2, 1) := by decide +kernel
theorem dX12_stick_24 : decode cX12_stick 24 = .ok (.iadd, 1) := by decide +kernel
theorem dX12_stick_25 : decode cX12_stick 25 = .ok (.invokevirtual 81, 3) := by decide +kernel
theorem dX12_stick_28 : decode cX12_stick 28 = .ok (.goto 4, 3) := by decide +kernel
theorem dX12_stick_31 : decode cX12_stick 31 = .ok (.iconst (-1), 1) := by decide +kernel
theorem dX12_stick_32 : decode cX12_stick 32 = .ok (.ireturn, 1) := by decide +kernel
theorem dX12_basket_0 : decode cX12_basket 0 = .ok (.iload_n 1, 1) := by decide +kernel
theorem dX12_basket_1 : decode cX12_basket 1 = .ok (.invokestatic 278, 3) := by decide +kernel
theorem dX12_basket_4 : decode cX12_basket 4 = .ok (.ifCond .eq 14, 3) := by decide +kernel
theorem dX12_basket_7 : decode cX12_basket 7 = .ok (.aload_n 0, 1) := by decide +kernel
theorem dX12_basket_8 : decode cX12_basket 8 = .ok (.iload_n 1, 1) := by decide +kernel
theorem dX12_basket_9 : decode cX12_basket 9 = .ok (.invokevirtual 95, 3) := by decide +kernel
theorem dX12_basket_12 : decode cX12_basket 12 = .ok (.invokestatic 103, 3) := by decide +kernel
theorem dX12_basket_15 : decode cX12_basket 15 = .ok (.goto 4, 3) := by decide +kernel
theorem dX12_basket_18 : decode cX12_basket 18 = .ok (.iconst (-1), 1) := by decide +kernel
theorem dX12_basket_19 : decode cX12_basket 19 = .ok (.ireturn, 1) := by decide +kernel
theorem dX12_number__0 : decode cX12_number_ 0 = .ok (.iload_n 1, 1) := by decide +kernel
theorem dX12_number__1 : decode cX12_number_ 1 = .ok (.i2l, 1) := by decide +kernel
theorem dX12_number__2 : decode cX12_number_ 2 = .ok (.lconst 0, 1) := by decide +kernel
theorem dX12_number__3 : decode cX12_number_ 3 = .ok (.ldc2_w 320, 3) := by decide +kernel
theorem dX12_number__6 : decode cX12_number_ 6 = .ok (.invokestatic 72, 3) := by decide +kernel
theorem dX12_number__9 : decode cX12_number_ 9 = .ok (.ifCond .eq 12, 3) := by decide +kernel
theorem dX12_number__12 : decode cX12_number_ 12 = .ok (.aload_n 0, 1) := by decide +kernel
theorem dX12_number__13 : decode cX12_number_ 13 = .ok (.getfield 17, 3) := by decide +kernel
theorem dX12_number__16 : decode cX12_number_ 16 = .ok (.iload_n 1, 1) := by decide +kernel
theorem dX12_number__17 : decode cX12_number_ 17 = .ok (.iaload, 1) := by decide +kernel
theorem dX12_number__18 : decode cX12_number_ 18 = .ok (.goto 4, 3) := by decide +kernel
theorem dX12_number__21 : decode cX12_number_ 21 = .ok (.iconst (-1), 1) := by decide +kernel
theorem dX12_number__22 : decode cX12_number_ 22 = .ok (.ireturn, 1) := by decide +kernel
theorem dX12_past_0 : decode cX12_past 0 = .ok (.iload_n 1, 1) := by decide +kernel
theorem dX12_past_1 : decode cX12_past 1 = .ok (.ifCond .lt 15, 3) := by decide +kernel
theorem dX12_past_4 : decode cX12_past 4 = .ok (.iload_n 2, 1) := by decide +kernel
theorem dX12_past_5 : decode cX12_past 5 = .ok (.i2l, 1) := by decide +kernel
theorem dX12_past_6 : decode cX12_past 6 = .ok (.lconst 0, 1) := by decide +kernel
theorem dX12_past_7 : decode cX12_past 7 = .ok (.ldc2_w 79, 3) := by decide +kernel
theorem dX12_past_10 : decode cX12_past 10 = .ok (.invokestatic 72, 3) := by decide +kernel
theorem dX12_past_13 : decode cX12_past 13 = .ok (.ifCond .ne 5, 3) := by decide +kernel
theorem dX12_past_16 : decode cX12_past 16 = .ok (.iconst (-1), 1) := by decide +kernel
theorem dX12_past_17 : decode cX12_past 17 = .ok (.ireturn, 1) := by decide +kernel
theorem dX12_past_18 : decode cX12_past 18 = .ok (.aload_n 0, 1) := by decide +kernel
theorem dX12_past_19 : decode cX12_past 19 = .ok (.getfield 30, 3) := by decide +kernel
theorem dX12_past_22 : decode cX12_past 22 = .ok (.iconst 1, 1) := by decide +kernel
theorem dX12_past_23 : decode cX12_past 23 = .ok (.iaload, 1) := by decide +kernel
theorem dX12_past_24 : decode cX12_past 24 = .ok (.aload_n 0, 1) := by decide +kernel
theorem dX12_past_25 : decode cX12_past 25 = .ok (.getfield 30, 3) := by decide +kernel
theorem dX12_past_28 : decode cX12_past 28 = .ok (.iconst 2, 1) := by decide +kernel
theorem dX12_past_29 : decode cX12_past 29 = .ok (.iaload, 1) := by decide +kernel
theorem dX12_past_30 : decode cX12_past 30 = .ok (.isub, 1) := by decide +kernel
theorem dX12_past_31 : decode cX12_past 31 = .ok (.istore_n 3, 1) := by decide +kernel
theorem dX12_past_32 : decode cX12_past 32 = .ok (.iload_n 1, 1) := by decide +kernel
theorem dX12_past_33 : decode cX12_past 33 = .ok (.i2l, 1) := by decide +kernel
theorem dX12_past_34 : decode cX12_past 34 = .ok (.iload_n 3, 1) := by decide +kernel
theorem dX12_past_35 : decode cX12_past 35 = .ok (.bipush 8, 2) := by decide +kernel
theorem dX12_past_37 : decode cX12_past 37 = .ok (.isub, 1) := by decide +kernel
theorem dX12_past_38 : decode cX12_past 38 = .ok (.i2l, 1) := by decide +kernel
theorem dX12_past_39 : decode cX12_past 39 = .ok (.iload_n 3, 1) := by decide +kernel
theorem dX12_past_40 : decode cX12_past 40 = .ok (.iconst 1, 1) := by decide +kernel
theorem dX12_past_41 : decode cX12_past 41 = .ok (.isub, 1) := by decide +kernel
theorem dX12_past_42 : decode cX12_past 42 = .ok (.i2l, 1) := by decide +kernel
theorem dX12_past_43 : decode cX12_past 43 = .ok (.invokestatic 72, 3) := by decide +kernel
theorem dX12_past_46 : decode cX12_past 46 = .ok (.ifCond .eq 23, 3) := by decide +kernel
theorem dX12_past_49 : decode cX12_past 49 = .ok (.aload_n 0, 1) := by decide +kernel
theorem dX12_past_50 : decode cX12_past 50 = .ok (.getfield 30, 3) := by decide +kernel
theorem dX12_past_53 : decode cX12_past 53 = .ok (.sipush 247, 3) := by decide +kernel
theorem dX12_past_56 : decode cX12_past 56 = .ok (.iconst 4, 1) := by decide +kernel
theorem dX12_past_57 : decode cX12_past 57 = .ok (.iload_n 1, 1) := by decide +kernel
theorem dX12_past_58 : decode cX12_past 58 = .ok (.bipush 8, 2) := by decide +kernel
theorem dX12_past_60 : decode cX12_past 60 = .ok (.irem, 1) := by decide +kernel
theorem dX12_past_61 : decode cX12_past 61 = .ok (.imul, 1) := by decide +kernel
theorem dX12_past_62 : decode cX12_past 62 = .ok (.iadd, 1) := by decide +kernel
theorem dX12_past_63 : decode cX12_past 63 = .ok (.iload_n 2, 1) := by decide +kernel
theorem dX12_past_64 : decode cX12_past 64 = .ok (.iadd, 1) := by decide +kernel
theorem dX12_past_65 : decode cX12_past 65 = .ok (.iaload, 1) := by decide +kernel
theorem dX12_past_66 : decode cX12_past 66 = .ok (.goto 5, 3) := by decide +kernel
theorem dX12_past_69 : decode cX12_past 69 = .ok (.bipush (-2), 2) := by decide +kernel
theorem dX12_past_71 : decode cX12_past 71 = .ok (.ireturn, 1) := by decide +kernel
theorem dX12_log_0 : decode cX12_log 0 = .ok (.iload_n 1, 1) := by decide +kernel
theorem dX12_log_1 : decode cX12_log 1 = .ok (.ifCond .lt 15, 3) := by decide +kernel
theorem dX12_log_4 : decode cX12_log 4 = .ok (.iload_n 2, 1) := by decide +kernel
theorem dX12_log_5 : decode cX12_log 5 = .ok (.i2l, 1) := by decide +kernel
theorem dX12_log_6 : decode cX12_log 6 = .ok (.lconst 0, 1) := by decide +kernel
theorem dX12_log_7 : decode cX12_log 7 = .ok (.ldc2_w 79, 3) := by decide +kernel
theorem dX12_log_10 : decode cX12_log 10 = .ok (.invokestatic 72, 3) := by decide +kernel
theorem dX12_log_13 : decode cX12_log 13 = .ok (.ifCond .ne 5, 3) := by decide +kernel
theorem dX12_log_16 : decode cX12_log 16 = .ok (.iconst (-1), 1) := by decide +kernel
theorem dX12_log_17 : decode cX12_log 17 = .ok (.ireturn, 1) := by decide +kernel
theorem dX12_log_18 : decode cX12_log 18 = .ok (.iload_n 1, 1) := by decide +kernel
theorem dX12_log_19 : decode cX12_log 19 = .ok (.aload_n 0, 1) := by decide +kernel
theorem dX12_log_20 : decode cX12_log 20 = .ok (.getfield 30, 3) := by decide +kernel
theorem dX12_log_23 : decode cX12_log 23 = .ok (.bipush 8, 2) := by decide +kernel
theorem dX12_log_25 : decode cX12_log 25 = .ok (.iaload, 1) := by decide +kernel
theorem dX12_log_26 : decode cX12_log 26 = .ok (.if_icmp .ge 20, 3) := by decide +kernel
theorem dX12_log_29 : decode cX12_log 29 = .ok (.aload_n 0, 1) := by decide +kernel
theorem dX12_log_30 : decode cX12_log 30 = .ok (.getfield 30, 3) := by decide +kernel
theorem dX12_log_33 : decode cX12_log 33 = .ok (.sipush 279, 3) := by decide +kernel
theorem dX12_log_36 : decode cX12_log 36 = .ok (.iconst 4, 1) := by decide +kernel
theorem dX12_log_37 : decode cX12_log 37 = .ok (.iload_n 1, 1) := by decide +kernel
theorem dX12_log_38 : decode cX12_log 38 = .ok (.imul, 1) := by decide +kernel
theorem dX12_log_39 : decode cX12_log 39 = .ok (.iadd, 1) := by decide +kernel
theorem dX12_log_40 : decode cX12_log 40 = .ok (.iload_n 2, 1) := by decide +kernel
theorem dX12_log_41 : decode cX12_log 41 = .ok (.iadd, 1) := by decide +kernel
theorem dX12_log_42 : decode cX12_log 42 = .ok (.iaload, 1) := by decide +kernel
theorem dX12_log_43 : decode cX12_log 43 = .ok (.goto 5, 3) := by decide +kernel
theorem dX12_log_46 : decode cX12_log 46 = .ok (.bipush (-2), 2) := by decide +kernel
theorem dX12_log_48 : decode cX12_log 48 = .ok (.ireturn, 1) := by decide +kernel
theorem dX12_isName_0 : decode cX12_isName 0 = .ok (.iconst 0, 1) := by decide +kernel
theorem dX12_isName_1 : decode cX12_isName 1 = .ok (.istore_n 1, 1) := by decide +kernel
theorem dX12_isName_2 : decode cX12_isName 2 = .ok (.iload_n 0, 1) := by decide +kernel
theorem dX12_isName_3 : decode cX12_isName 3 = .ok (.bipush 25, 2) := by decide +kernel
theorem dX12_isName_5 : decode cX12_isName 5 = .ok (.ishr, 1) := by decide +kernel
theorem dX12_isName_6 : decode cX12_isName 6 = .ok (.ifCond .le 14, 3) := by decide +kernel
theorem dX12_isName_9 : decode cX12_isName 9 = .ok (.iload_n 0, 1) := by decide +kernel
theorem dX12_isName_10 : decode cX12_isName 10 = .ok (.bipush 30, 2) := by decide +kernel
theorem dX12_isName_12 : decode cX12_isName 12 = .ok (.ishr, 1) := by decide +kernel
theorem dX12_isName_13 : decode cX12_isName 13 = .ok (.ifCond .ne 7, 3) := by decide +kernel
theorem dX12_isName_16 : decode cX12_isName 16 = .ok (.iconst 1, 1) := by decide +kernel
theorem dX12_isName_17 : decode cX12_isName 17 = .ok (.goto 4, 3) := by decide +kernel
theorem dX12_isName_20 : decode cX12_isName 20 = .ok (.iconst 0, 1) := by decide +kernel
theorem dX12_isName_21 : decode cX12_isName 21 = .ok (.istore_n 2, 1) := by decide +kernel
theorem dX12_isName_22 : decode cX12_isName 22 = .ok (.bipush 25, 2) := by decide +kernel
theorem dX12_isName_24 : decode cX12_isName 24 = .ok (.istore_n 3, 1) := by decide +kernel
theorem dX12_isName_25 : decode cX12_isName 25 = .ok (.iload_n 3, 1) := by decide +kernel
theorem dX12_isName_26 : decode cX12_isName 26 = .ok (.ifCond .lt 58, 3) := by decide +kernel
theorem dX12_isName_29 : decode cX12_isName 29 = .ok (.iload_n 0, 1) := by decide +kernel
theorem dX12_isName_30 : decode cX12_isName 30 = .ok (.iload_n 3, 1) := by decide +kernel
theorem dX12_isName_31 : decode cX12_isName 31 = .ok (.ishr, 1) := by decide +kernel
theorem dX12_isName_32 : decode cX12_isName 32 = .ok (.bipush 31, 2) := by decide +kernel
theorem dX12_isName_34 : decode cX12_isName 34 = .ok (.iand, 1) := by decide +kernel
theorem dX12_isName_35 : decode cX12_isName 35 = .ok (.istore 4, 2) := by decide +kernel
theorem dX12_isName_37 : decode cX12_isName 37 = .ok (.iload_n 2, 1) := by decide +kernel
theorem dX12_isName_38 : decode cX12_isName 38 = .ok (.ifCond .eq 23, 3) := by decide +kernel
theorem dX12_isName_41 : decode cX12_isName 41 = .ok (.iload 4, 2) := by decide +kernel
theorem dX12_isName_43 : decode cX12_isName 43 = .ok (.bipush 27, 2) := by decide +kernel
theorem dX12_isName_45 : decode cX12_isName 45 = .ok (.if_icmp .ge 16, 3) := by decide +kernel
theorem dX12_isName_48 : decode cX12_isName 48 = .ok (.iload_n 1, 1) := by decide +kernel
theorem dX12_isName_49 : decode cX12_isName 49 = .ok (.ifCond .eq 8, 3) := by decide +kernel
theorem dX12_isName_52 : decode cX12_isName 52 = .ok (.iload 4, 2) := by decide +kernel
theorem dX12_isName_54 : decode cX12_isName 54 = .ok (.ifCond .gt 7, 3) := by decide +kernel
theorem dX12_isName_57 : decode cX12_isName 57 = .ok (.iconst 1, 1) := by decide +kernel
theorem dX12_isName_58 : decode cX12_isName 58 = .ok (.goto 4, 3) := by decide +kernel
theorem dX12_isName_61 : decode cX12_isName 61 = .ok (.iconst 0, 1) := by decide +kernel
theorem dX12_isName_62 : decode cX12_isName 62 = .ok (.istore_n 2, 1) := by decide +kernel
theorem dX12_isName_63 : decode cX12_isName 63 = .ok (.iload_n 1, 1) := by decide +kernel
theorem dX12_isName_64 : decode cX12_isName 64 = .ok (.ifCond .ne 8, 3) := by decide +kernel
theorem dX12_isName_67 : decode cX12_isName 67 = .ok (.iload 4, 2) := by decide +kernel
theorem dX12_isName_69 : decode cX12_isName 69 = .ok (.ifCond .ne 7, 3) := by decide +kernel
theorem dX12_isName_72 : decode cX12_isName 72 = .ok (.iconst 1, 1) := by decide +kernel
theorem dX12_isName_73 : decode cX12_isName 73 = .ok (.goto 4, 3) := by decide +kernel
theorem dX12_isName_76 : decode cX12_isName 76 = .ok (.iconst 0, 1) := by decide +kernel
theorem dX12_isName_77 : decode cX12_isName 77 = .ok (.istore_n 1, 1) := by decide +kernel
theorem dX12_isName_78 : decode cX12_isName 78 = .ok (.iinc 3 (-5), 3) := by decide +kernel
theorem dX12_isName_81 : decode cX12_isName 81 = .ok (.goto (-56), 3) := by decide +kernel
theorem dX12_isName_84 : decode cX12_isName 84 = .ok (.iload_n 2, 1) := by decide +kernel
theorem dX12_isName_85 : decode cX12_isName 85 = .ok (.ireturn, 1) := by decide +kernel
theorem dX12_named__0 : decode cX12_named_ 0 = .ok (.iload_n 1, 1) := by decide +kernel
theorem dX12_named__1 : decode cX12_named_ 1 = .ok (.invokestatic 322, 3) := by decide +kernel
theorem dX12_named__4 : decode cX12_named_ 4 = .ok (.ifCond .ne 5, 3) := by decide +kernel
theorem dX12_named__7 : decode cX12_named_ 7 = .ok (.iconst (-1), 1) := by decide +kernel
theorem dX12_named__8 : decode cX12_named_ 8 = .ok (.ireturn, 1) := by decide +kernel
theorem dX12_named__9 : decode cX12_named_ 9 = .ok (.iconst 0, 1) := by decide +kernel
theorem dX12_named__10 : decode cX12_named_ 10 = .ok (.istore_n 3, 1) := by decide +kernel
theorem dX12_named__11 : decode cX12_named_ 11 = .ok (.iload_n 3, 1) := by decide +kernel
theorem dX12_named__12 : decode cX12_named_ 12 = .ok (.iload_n 2, 1) := by decide +kernel
theorem dX12_named__13 : decode cX12_named_ 13 = .ok (.ifCond .eq 10, 3) := by decide +kernel
theorem dX12_named__16 : decode cX12_named_ 16 = .ok (.aload_n 0, 1) := by decide +kernel
theorem dX12_named__17 : decode cX12_named_ 17 = .ok (.getfield 76, 3) := by decide +kernel
theorem dX12_named__20 : decode cX12_named_ 20 = .ok (.goto 7, 3) := by decide +kernel
theorem dX12_named__23 : decode cX12_named_ 23 = .ok (.aload_n 0, 1) := by decide +kernel
theorem dX12_named__24 : decode cX12_named_ 24 = .ok (.getfield 55, 3) := by decide +kernel
theorem dX12_named__27 : decode cX12_named_ 27 = .ok (.if_icmp .ge 34, 3) := by decide +kernel
theorem dX12_named__30 : decode cX12_named_ 30 = .ok (.iload_n 2, 1) := by decide +kernel
theorem dX12_named__31 : decode cX12_named_ 31 = .ok (.ifCond .eq 12, 3) := by decide +kernel
theorem dX12_named__34 : decode cX12_named_ 34 = .ok (.aload_n 0, 1) := by decide +kernel
theorem dX12_named__35 : decode cX12_named_ 35 = .ok (.getfield 27, 3) := by decide +kernel
theorem dX12_named__38 : decode cX12_named_ 38 = .ok (.iload_n 3, 1) := by decide +kernel
theorem dX12_named__39 : decode cX12_named_ 39 = .ok (.iaload, 1) := by decide +kernel
theorem dX12_named__40 : decode cX12_named_ 40 = .ok (.goto 9, 3) := by decide +kernel
theorem dX12_named__43 : decode cX12_named_ 43 = .ok (.aload_n 0, 1) := by decide +kernel
theorem dX12_named__44 : decode cX12_named_ 44 = .ok (.getfield 21, 3) := by decide +kernel
theorem dX12_named__47 : decode cX12_named_ 47 = .ok (.iload_n 3, 1) := by decide +kernel
theorem dX12_named__48 : decode cX12_named_ 48 = .ok (.iaload, 1) := by decide +kernel
theorem dX12_named__49 : decode cX12_named_ 49 = .ok (.iload_n 1, 1) := by decide +kernel
theorem dX12_named__50 : decode cX12_named_ 50 = .ok (.if_icmp .ne 5, 3) := by decide +kernel
theorem dX12_named__53 : decode cX12_named_ 53 = .ok (.iload_n 3, 1) := by decide +kernel
theorem dX12_named__54 : decode cX12_named_ 54 = .ok (.ireturn, 1) := by decide +kernel
theorem dX12_named__55 : decode cX12_named_ 55 = .ok (.iinc 3 1, 3) := by decide +kernel
theorem dX12_named__58 : decode cX12_named_ 58 = .ok (.goto (-47), 3) := by decide +kernel
theorem dX12_named__61 : decode cX12_named_ 61 = .ok (.bipush (-2), 2) := by decide +kernel
theorem dX12_named__63 : decode cX12_named_ 63 = .ok (.ireturn, 1) := by decide +kernel
theorem dX12_owners_0 : decode cX12_owners 0 = .ok (.iload_n 1, 1) := by decide +kernel
theorem dX12_owners_1 : decode cX12_owners 1 = .ok (.invokestatic 278, 3) := by decide +kernel
theorem dX12_owners_4 : decode cX12_owners 4 = .ok (.ifCond .eq 11, 3) := by decide +kernel
theorem dX12_owners_7 : decode cX12_owners 7 = .ok (.aload_n 0, 1) := by decide +kernel
theorem dX12_owners_8 : decode cX12_owners 8 = .ok (.iload_n 1, 1) := by decide +kernel
theorem dX12_owners_9 : decode cX12_owners 9 = .ok (.invokevirtual 95, 3) := by decide +kernel
theorem dX12_owners_12 : decode cX12_owners 12 = .ok (.goto 4, 3) := by decide +kernel
theorem dX12_owners_15 : decode cX12_owners 15 = .ok (.iconst (-1), 1) := by decide +kernel
theorem dX12_owners_16 : decode cX12_owners 16 = .ok (.ireturn, 1) := by decide +kernel
theorem dX12_carries_0 : decode cX12_carries 0 = .ok (.aload_n 0, 1) := by decide +kernel
theorem dX12_carries_1 : decode cX12_carries 1 = .ok (.iload_n 1, 1) := by decide +kernel
theorem dX12_carries_2 : decode cX12_carries 2 = .ok (.invokevirtual 265, 3) := by decide +kernel
theorem dX12_carries_5 : decode cX12_carries 5 = .ok (.ifCond .eq 11, 3) := by decide +kernel
theorem dX12_carries_8 : decode cX12_carries 8 = .ok (.aload_n 0, 1) := by decide +kernel
theorem dX12_carries_9 : decode cX12_carries 9 = .ok (.iload_n 1, 1) := by decide +kernel
theorem dX12_carries_10 : decode cX12_carries 10 = .ok (.invokevirtual 281, 3) := by decide +kernel
theorem dX12_carries_13 : decode cX12_carries 13 = .ok (.goto 4, 3) := by decide +kernel
theorem dX12_carries_16 : decode cX12_carries 16 = .ok (.iconst (-1), 1) := by decide +kernel
theorem dX12_carries_17 : decode cX12_carries 17 = .ok (.ireturn, 1) := by decide +kernel
theorem dX12_wrongOnes_0 : decode cX12_wrongOnes 0 = .ok (.aload_n 0, 1) := by decide +kernel
theorem dX12_wrongOnes_1 : decode cX12_wrongOnes 1 = .ok (.invokevirtual 300, 3) := by decide +kernel
theorem dX12_wrongOnes_4 : decode cX12_wrongOnes 4 = .ok (.ireturn, 1) := by decide +kernel
theorem dX12_why_0 : decode cX12_why 0 = .ok (.aload_n 0, 1) := by decide +kernel
theorem dX12_why_1 : decode cX12_why 1 = .ok (.iload_n 1, 1) := by decide +kernel
theorem dX12_why_2 : decode cX12_why 2 = .ok (.iload_n 2, 1) := by decide +kernel
theorem dX12_why_3 : decode cX12_why 3 = .ok (.iload_n 3, 1) := by decide +kernel
theorem dX12_why_4 : decode cX12_why 4 = .ok (.invokevirtual 291, 3) := by decide +kernel
theorem dX12_why_7 : decode cX12_why 7 = .ok (.ireturn, 1) := by decide +kernel
theorem dX12_needIfHome_0 : decode cX12_needIfHome 0 = .ok (.aload_n 0, 1) := by decide +kernel
theorem dX12_needIfHome_1 : decode cX12_needIfHome 1 = .ok (.iload_n 1, 1) := by decide +kernel
theorem dX12_needIfHome_2 : decode cX12_needIfHome 2 = .ok (.invokevirtual 257, 3) := by decide +kernel
theorem dX12_needIfHome_5 : decode cX12_needIfHome 5 = .ok (.ifCond .ne 5, 3) := by decide +kernel
theorem dX12_needIfHome_8 : decode cX12_needIfHome 8 = .ok (.iconst (-1), 1) := by decide +kernel
theorem dX12_needIfHome_9 : decode cX12_needIfHome 9 = .ok (.ireturn, 1) := by decide +kernel
theorem dX12_needIfHome_10 : decode cX12_needIfHome 10 = .ok (.aload_n 0, 1) := by decide +kernel
theorem dX12_needIfHome_11 : decode cX12_needIfHome 11 = .ok (.iload_n 1, 1) := by decide +kernel
theorem dX12_needIfHome_12 : decode cX12_needIfHome 12 = .ok (.invokevirtual 106, 3) := by decide +kernel
theorem dX12_needIfHome_15 : decode cX12_needIfHome 15 = .ok (.ifCond .eq 28, 3) := by decide +kernel
theorem dX12_needIfHome_18 : decode cX12_needIfHome 18 = .ok (.aload_n 0, 1) := by decide +kernel
theorem dX12_needIfHome_19 : decode cX12_needIfHome 19 = .ok (.aload_n 0, 1) := by decide +kernel
theorem dX12_needIfHome_20 : decode cX12_needIfHome 20 = .ok (.getfield 30, 3) := by decide +kernel
theorem dX12_needIfHome_23 : decode cX12_needIfHome 23 = .ok (.iconst 0, 1) := by decide +kernel
theorem dX12_needIfHome_24 : decode cX12_needIfHome 24 = .ok (.iaload, 1) := by decide +kernel
theorem dX12_needIfHome_25 : decode cX12_needIfHome 25 = .ok (.aload_n 0, 1) := by decide +kernel
theorem dX12_needIfHome_26 : decode cX12_needIfHome 26 = .ok (.aload_n 0, 1) := by decide +kernel
theorem dX12_needIfHome_27 : decode cX12_needIfHome 27 = .ok (.getfield 30, 3) := by decide +kernel
theorem dX12_needIfHome_30 : decode cX12_needIfHome 30 = .ok (.iconst 0, 1) := by decide +kernel
theorem dX12_needIfHome_31 : decode cX12_needIfHome 31 = .ok (.iaload, 1) := by decide +kernel
theorem dX12_needIfHome_32 : decode cX12_needIfHome 32 = .ok (.invokevirtual 109, 3) := by decide +kernel
theorem dX12_needIfHome_35 : decode cX12_needIfHome 35 = .ok (.iconst 1, 1) := by decide +kernel
theorem dX12_needIfHome_36 : decode cX12_needIfHome 36 = .ok (.isub, 1) := by decide +kernel
theorem dX12_needIfHome_37 : decode cX12_needIfHome 37 = .ok (.invokevirtual 112, 3) := by decide +kernel
theorem dX12_needIfHome_40 : decode cX12_needIfHome 40 = .ok (.goto 5, 3) := by decide +kernel
theorem dX12_needIfHome_43 : decode cX12_needIfHome 43 = .ok (.bipush (-4), 2) := by decide +kernel
theorem dX12_needIfHome_45 : decode cX12_needIfHome 45 = .ok (.ireturn, 1) := by decide +kernel
theorem dX12_leads_0 : decode cX12_leads 0 = .ok (.aload_n 0, 1) := by decide +kernel
theorem dX12_leads_1 : decode cX12_leads 1 = .ok (.invokevirtual 115, 3) := by decide +kernel
theorem dX12_leads_4 : decode cX12_leads 4 = .ok (.ifCond .eq 10, 3) := by decide +kernel
theorem dX12_leads_7 : decode cX12_leads 7 = .ok (.aload_n 0, 1) := by decide +kernel
theorem dX12_leads_8 : decode cX12_leads 8 = .ok (.invokevirtual 135, 3) := by decide +kernel
theorem dX12_leads_11 : decode cX12_leads 11 = .ok (.goto 5, 3) := by decide +kernel
theorem dX12_leads_14 : decode cX12_leads 14 = .ok (.bipush (-5), 2) := by decide +kernel
theorem dX12_leads_16 : decode cX12_leads 16 = .ok (.ireturn, 1) := by decide +kernel
theorem dX12_truly_0 : decode cX12_truly 0 = .ok (.aload_n 0, 1) := by decide +kernel
theorem dX12_truly_1 : decode cX12_truly 1 = .ok (.getfield 30, 3) := by decide +kernel
theorem dX12_truly_4 : decode cX12_truly 4 = .ok (.iconst 1, 1) := by decide +kernel
theorem dX12_truly_5 : decode cX12_truly 5 = .ok (.iaload, 1) := by decide +kernel
theorem dX12_truly_6 : decode cX12_truly 6 = .ok (.ifCond .ne 8, 3) := by decide +kernel
theorem dX12_truly_9 : decode cX12_truly 9 = .ok (.bipush (-5), 2) := by decide +kernel
theorem dX12_truly_11 : decode cX12_truly 11 = .ok (.goto 18, 3) := by decide +kernel
theorem dX12_truly_14 : decode cX12_truly 14 = .ok (.aload_n 0, 1) := by decide +kernel
theorem dX12_truly_15 : decode cX12_truly 15 = .ok (.aload_n 0, 1) := by decide +kernel
theorem dX12_truly_16 : decode cX12_truly 16 = .ok (.invokevirtual 125, 3) := by decide +kernel
theorem dX12_truly_19 : decode cX12_truly 19 = .ok (.aload_n 0, 1) := by decide +kernel
theorem dX12_truly_20 : decode cX12_truly 20 = .ok (.invokevirtual 300, 3) := by decide +kernel
theorem dX12_truly_23 : decode cX12_truly 23 = .ok (.iconst 0, 1) := by decide +kernel
theorem dX12_truly_24 : decode cX12_truly 24 = .ok (.bipush (-2), 2) := by decide +kernel
theorem dX12_truly_26 : decode cX12_truly 26 = .ok (.invokevirtual 128, 3) := by decide +kernel
theorem dX12_truly_29 : decode cX12_truly 29 = .ok (.ireturn, 1) := by decide +kernel
theorem dX12_couldBeLaid_0 : decode cX12_couldBeLaid 0 = .ok (.aload_n 0, 1) := by decide +kernel
theorem dX12_couldBeLaid_1 : decode cX12_couldBeLaid 1 = .ok (.iload_n 1, 1) := by decide +kernel
theorem dX12_couldBeLaid_2 : decode cX12_couldBeLaid 2 = .ok (.iconst 5, 1) := by decide +kernel
theorem dX12_couldBeLaid_3 : decode cX12_couldBeLaid 3 = .ok (.invokevirtual 81, 3) := by decide +kernel
theorem dX12_couldBeLaid_6 : decode cX12_couldBeLaid 6 = .ok (.istore_n 2, 1) := by decide +kernel
theorem dX12_couldBeLaid_7 : decode cX12_couldBeLaid 7 = .ok (.iload_n 2, 1) := by decide +kernel
theorem dX12_couldBeLaid_8 : decode cX12_couldBeLaid 8 = .ok (.ifCond .ne 11, 3) := by decide +kernel
theorem dX12_couldBeLaid_11 : decode cX12_couldBeLaid 11 = .ok (.aload_n 0, 1) := by decide +kernel
theorem dX12_couldBeLaid_12 : decode cX12_couldBeLaid 12 = .ok (.iload_n 1, 1) := by decide +kernel
theorem dX12_couldBeLaid_13 : decode cX12_couldBeLaid 13 = .ok (.invokevirtual 91, 3) := by decide +kernel
theorem dX12_couldBeLaid_16 : decode cX12_couldBeLaid 16 = .ok (.ifCond .eq 22, 3) := by decide +kernel
theorem dX12_couldBeLaid_19 : decode cX12_couldBeLaid 19 = .ok (.iload_n 2, 1) := by decide +kernel
theorem dX12_couldBeLaid_20 : decode cX12_couldBeLaid 20 = .ok (.iconst 1, 1) := by decide +kernel
theorem dX12_couldBeLaid_21 : decode cX12_couldBeLaid 21 = .ok (.if_icmp .ne 21, 3) := by decide +kernel
theorem dX12_couldBeLaid_24 : decode cX12_couldBeLaid 24 = .ok (.aload_n 0, 1) := by decide +kernel
theorem dX12_couldBeLaid_25 : decode cX12_couldBeLaid 25 = .ok (.aload_n 0, 1) := by decide +kernel
theorem dX12_couldBeLaid_26 : decode cX12_couldBeLaid 26 = .ok (.iload_n 1, 1) := by decide +kernel
theorem dX12_couldBeLaid_27 : decode cX12_couldBeLaid 27 = .ok (.bipush 6, 2) := by decide +kernel
theorem dX12_couldBeLaid_29 : decode cX12_couldBeLaid 29 = .ok (.invokevirtual 81, 3) := by decide +kernel
theorem dX12_couldBeLaid_32 : decode cX12_couldBeLaid 32 = .ok (.invokevirtual 91, 3) := by decide +kernel
theorem dX12_couldBeLaid_35 : decode cX12_couldBeLaid 35 = .ok (.ifCond .ne 7, 3) := by decide +kernel
theorem dX12_couldBeLaid_38 : decode cX12_couldBeLaid 38 = .ok (.iconst 1, 1) := by decide +kernel
theorem dX12_couldBeLaid_39 : decode cX12_couldBeLaid 39 = .ok (.goto 4, 3) := by decide +kernel
theorem dX12_couldBeLaid_42 : decode cX12_couldBeLaid 42 = .ok (.iconst 0, 1) := by decide +kernel
theorem dX12_couldBeLaid_43 : decode cX12_couldBeLaid 43 = .ok (.ireturn, 1) := by decide +kernel
theorem dX12_canWin_0 : decode cX12_canWin 0 = .ok (.iload_n 1, 1) := by decide +kernel
theorem dX12_canWin_1 : decode cX12_canWin 1 = .ok (.invokestatic 278, 3) := by decide +kernel
theorem dX12_canWin_4 : decode cX12_canWin 4 = .ok (.ifCond .eq 20, 3) := by decide +kernel
theorem dX12_canWin_7 : decode cX12_canWin 7 = .ok (.aload_n 0, 1) := by decide +kernel
theorem dX12_canWin_8 : decode cX12_canWin 8 = .ok (.invokevirtual 115, 3) := by decide +kernel
theorem dX12_canWin_11 : decode cX12_canWin 11 = .ok (.ifCond .eq 13, 3) := by decide +kernel
theorem dX12_canWin_14 : decode cX12_canWin 14 = .ok (.iload_n 1, 1) := by decide +kernel
theorem dX12_canWin_15 : decode cX12_canWin 15 = .ok (.aload_n 0, 1) := by decide +kernel
theorem dX12_canWin_16 : decode cX12_canWin 16 = .ok (.getfield 30, 3) := by decide +kernel
theorem dX12_canWin_19 : decode cX12_canWin 19 = .ok (.iconst 3, 1) := by decide +kernel
theorem dX12_canWin_20 : decode cX12_canWin 20 = .ok (.iaload, 1) := by decide +kernel
theorem dX12_canWin_21 : decode cX12_canWin 21 = .ok (.if_icmp .lt 5, 3) := by decide +kernel
theorem dX12_canWin_24 : decode cX12_canWin 24 = .ok (.iconst 0, 1) := by decide +kernel
theorem dX12_canWin_25 : decode cX12_canWin 25 = .ok (.ireturn, 1) := by decide +kernel
theorem dX12_canWin_26 : decode cX12_canWin 26 = .ok (.iconst 0, 1) := by decide +kernel
theorem dX12_canWin_27 : decode cX12_canWin 27 = .ok (.istore_n 2, 1) := by decide +kernel
theorem dX12_canWin_28 : decode cX12_canWin 28 = .ok (.iconst 0, 1) := by decide +kernel
theorem dX12_canWin_29 : decode cX12_canWin 29 = .ok (.istore_n 3, 1) := by decide +kernel
theorem dX12_canWin_30 : decode cX12_canWin 30 = .ok (.iload_n 3, 1) := by decide +kernel
theorem dX12_canWin_31 : decode cX12_canWin 31 = .ok (.aload_n 0, 1) := by decide +kernel
theorem dX12_canWin_32 : decode cX12_canWin 32 = .ok (.getfield 55, 3) := by decide +kernel
theorem dX12_canWin_35 : decode cX12_canWin 35 = .ok (.if_icmp .ge 27, 3) := by decide +kernel
theorem dX12_canWin_38 : decode cX12_canWin 38 = .ok (.iload_n 2, 1) := by decide +kernel
theorem dX12_canWin_39 : decode cX12_canWin 39 = .ok (.aload_n 0, 1) := by decide +kernel
theorem dX12_canWin_40 : decode cX12_canWin 40 = .ok (.iload_n 3, 1) := by decide +kernel
theorem dX12_canWin_41 : decode cX12_canWin 41 = .ok (.invokevirtual 325, 3) := by decide +kernel
theorem dX12_canWin_44 : decode cX12_canWin 44 = .ok (.ifCond .eq 9, 3) := by decide +kernel
theorem dX12_canWin_47 : decode cX12_canWin 47 = .ok (.iconst 1, 1) := by decide +kernel
theorem dX12_canWin_48 : decode cX12_canWin 48 = .ok (.iload_n 3, 1) := by decide +kernel
theorem dX12_canWin_49 : decode cX12_canWin 49 = .ok (.ishl, 1) := by decide +kernel
theorem dX12_canWin_50 : decode cX12_canWin 50 = .ok (.goto 4, 3) := by decide +kernel
theorem dX12_canWin_53 : decode cX12_canWin 53 = .ok (.iconst 0, 1) := by decide +kernel
theorem dX12_canWin_54 : decode cX12_canWin 54 = .ok (.ior, 1) := by decide +kernel
theorem dX12_canWin_55 : decode cX12_canWin 55 = .ok (.istore_n 2, 1) := by decide +kernel
theorem dX12_canWin_56 : decode cX12_canWin 56 = .ok (.iinc 3 1, 3) := by decide +kernel
theorem dX12_canWin_59 : decode cX12_canWin 59 = .ok (.goto (-29), 3) := by decide +kernel
theorem dX12_canWin_62 : decode cX12_canWin 62 = .ok (.aload_n 0, 1) := by decide +kernel
theorem dX12_canWin_63 : decode cX12_canWin 63 = .ok (.aload_n 0, 1) := by decide +kernel
theorem dX12_canWin_64 : decode cX12_canWin 64 = .ok (.invokevirtual 125, 3) := by decide +kernel
theorem dX12_canWin_67 : decode cX12_canWin 67 = .ok (.iconst 0, 1) := by decide +kernel
theorem dX12_canWin_68 : decode cX12_canWin 68 = .ok (.iload_n 2, 1) := by decide +kernel
theorem dX12_canWin_69 : decode cX12_canWin 69 = .ok (.iload_n 1, 1) := by decide +kernel
theorem dX12_canWin_70 : decode cX12_canWin 70 = .ok (.invokevirtual 128, 3) := by decide +kernel
theorem dX12_canWin_73 : decode cX12_canWin 73 = .ok (.iload_n 1, 1) := by decide +kernel
theorem dX12_canWin_74 : decode cX12_canWin 74 = .ok (.if_icmp .ne 7, 3) := by decide +kernel
theorem dX12_canWin_77 : decode cX12_canWin 77 = .ok (.iconst 1, 1) := by decide +kernel
theorem dX12_canWin_78 : decode cX12_canWin 78 = .ok (.goto 4, 3) := by decide +kernel
theorem dX12_canWin_81 : decode cX12_canWin 81 = .ok (.iconst 0, 1) := by decide +kernel
theorem dX12_canWin_82 : decode cX12_canWin 82 = .ok (.ireturn, 1) := by decide +kernel
theorem dX12_decisive_0 : decode cX12_decisive 0 = .ok (.aload_n 0, 1) := by decide +kernel
theorem dX12_decisive_1 : decode cX12_decisive 1 = .ok (.getfield 30, 3) := by decide +kernel
theorem dX12_decisive_4 : decode cX12_decisive 4 = .ok (.iconst 1, 1) := by decide +kernel
theorem dX12_decisive_5 : decode cX12_decisive 5 = .ok (.iaload, 1) := by decide +kernel
theorem dX12_decisive_6 : decode cX12_decisive 6 = .ok (.ifCond .ne 6, 3) := by decide +kernel
theorem dX12_decisive_9 : decode cX12_decisive 9 = .ok (.bipush (-5), 2) := by decide +kernel
theorem dX12_decisive_11 : decode cX12_decisive 11 = .ok (.ireturn, 1) := by decide +kernel
theorem dX12_decisive_12 : decode cX12_decisive 12 = .ok (.aload_n 0, 1) := by decide +kernel
theorem dX12_decisive_13 : decode cX12_decisive 13 = .ok (.invokevirtual 135, 3) := by decide +kernel
theorem dX12_decisive_16 : decode cX12_decisive 16 = .ok (.istore_n 1, 1) := by decide +kernel
theorem dX12_decisive_17 : decode cX12_decisive 17 = .ok (.aload_n 0, 1) := by decide +kernel
theorem dX12_decisive_18 : decode cX12_decisive 18 = .ok (.invokevirtual 99, 3) := by decide +kernel
theorem dX12_decisive_21 : decode cX12_decisive 21 = .ok (.istore_n 2, 1) := by decide +kernel
theorem dX12_decisive_22 : decode cX12_decisive 22 = .ok (.iconst 0, 1) := by decide +kernel
theorem dX12_decisive_23 : decode cX12_decisive 23 = .ok (.istore_n 3, 1) := by decide +kernel
theorem dX12_decisive_24 : decode cX12_decisive 24 = .ok (.iconst 0, 1) := by decide +kernel
theorem dX12_decisive_25 : decode cX12_decisive 25 = .ok (.istore 4, 2) := by decide +kernel
theorem dX12_decisive_27 : decode cX12_decisive 27 = .ok (.iload 4, 2) := by decide +kernel
theorem dX12_decisive_29 : decode cX12_decisive 29 = .ok (.aload_n 0, 1) := by decide +kernel
theorem dX12_decisive_30 : decode cX12_decisive 30 = .ok (.getfield 55, 3) := by decide +kernel
theorem dX12_decisive_33 : decode cX12_decisive 33 = .ok (.if_icmp .ge 46, 3) := by decide +kernel
theorem dX12_decisive_36 : decode cX12_decisive 36 = .ok (.iload_n 3, 1) := by decide +kernel
theorem dX12_decisive_37 : decode cX12_decisive 37 = .ok (.iload_n 2, 1) := by decide +kernel
theorem dX12_decisive_38 : decode cX12_decisive 38 = .ok (.iload 4, 2) := by decide +kernel
theorem dX12_decisive_40 : decode cX12_decisive 40 = .ok (.ishr, 1) := by decide +kernel
theorem dX12_decisive_41 : decode cX12_decisive 41 = .ok (.iconst 1, 1) := by decide +kernel
theorem dX12_decisive_42 : decode cX12_decisive 42 = .ok (.iand, 1) := by decide +kernel
theorem dX12_decisive_43 : decode cX12_decisive 43 = .ok (.iconst 1, 1) := by decide +kernel
theorem dX12_decisive_44 : decode cX12_decisive 44 = .ok (.if_icmp .ne 26, 3) := by decide +kernel
theorem dX12_decisive_47 : decode cX12_decisive 47 = .ok (.aload_n 0, 1) := by decide +kernel
theorem dX12_decisive_48 : decode cX12_decisive 48 = .ok (.aload_n 0, 1) := by decide +kernel
theorem dX12_decisive_49 : decode cX12_decisive 49 = .ok (.invokevirtual 125, 3) := by decide +kernel
theorem dX12_decisive_52 : decode cX12_decisive 52 = .ok (.iconst 1, 1) := by decide +kernel
theorem dX12_decisive_53 : decode cX12_decisive 53 = .ok (.iload 4, 2) := by decide +kernel
theorem dX12_decisive_55 : decode cX12_decisive 55 = .ok (.ishl, 1) := by decide +kernel
theorem dX12_decisive_56 : decode cX12_decisive 56 = .ok (.iconst 0, 1) := by decide +kernel
theorem dX12_decisive_57 : decode cX12_decisive 57 = .ok (.bipush (-2), 2) := by decide +kernel
theorem dX12_decisive_59 : decode cX12_decisive 59 = .ok (.invokevirtual 128, 3) := by decide +kernel
theorem dX12_decisive_62 : decode cX12_decisive 62 = .ok (.iload_n 1, 1) := by decide +kernel
theorem dX12_decisive_63 : decode cX12_decisive 63 = .ok (.if_icmp .eq 7, 3) := by decide +kernel
theorem dX12_decisive_66 : decode cX12_decisive 66 = .ok (.iconst 1, 1) := by decide +kernel
theorem dX12_decisive_67 : decode cX12_decisive 67 = .ok (.goto 4, 3) := by decide +kernel
theorem dX12_decisive_70 : decode cX12_decisive 70 = .ok (.iconst 0, 1) := by decide +kernel
theorem dX12_decisive_71 : decode cX12_decisive 71 = .ok (.iadd, 1) := by decide +kernel
theorem dX12_decisive_72 : decode cX12_decisive 72 = .ok (.istore_n 3, 1) := by decide +kernel
theorem dX12_decisive_73 : decode cX12_decisive 73 = .ok (.iinc 4 1, 3) := by decide +kernel
theorem dX12_decisive_76 : decode cX12_decisive 76 = .ok (.goto (-49), 3) := by decide +kernel
theorem dX12_decisive_79 : decode cX12_decisive 79 = .ok (.iload_n 3, 1) := by decide +kernel
theorem dX12_decisive_80 : decode cX12_decisive 80 = .ok (.ireturn, 1) := by decide +kernel
theorem dX12_lacks_0 : decode cX12_lacks 0 = .ok (.aload_n 0, 1) := by decide +kernel
theorem dX12_lacks_1 : decode cX12_lacks 1 = .ok (.invokevirtual 115, 3) := by decide +kernel
theorem dX12_lacks_4 : decode cX12_lacks 4 = .ok (.ifCond .ne 6, 3) := by decide +kernel
theorem dX12_lacks_7 : decode cX12_lacks 7 = .ok (.bipush (-5), 2) := by decide +kernel
theorem dX12_lacks_9 : decode cX12_lacks 9 = .ok (.ireturn, 1) := by decide +kernel
theorem dX12_lacks_10 : decode cX12_lacks 10 = .ok (.aload_n 0, 1) := by decide +kernel
theorem dX12_lacks_11 : decode cX12_lacks 11 = .ok (.invokevirtual 125, 3) := by decide +kernel
theorem dX12_lacks_14 : decode cX12_lacks 14 = .ok (.aload_n 0, 1) := by decide +kernel
theorem dX12_lacks_15 : decode cX12_lacks 15 = .ok (.invokevirtual 132, 3) := by decide +kernel
theorem dX12_lacks_18 : decode cX12_lacks 18 = .ok (.isub, 1) := by decide +kernel
theorem dX12_lacks_19 : decode cX12_lacks 19 = .ok (.istore_n 1, 1) := by decide +kernel
theorem dX12_lacks_20 : decode cX12_lacks 20 = .ok (.iload_n 1, 1) := by decide +kernel
theorem dX12_lacks_21 : decode cX12_lacks 21 = .ok (.ifCond .ge 7, 3) := by decide +kernel
theorem dX12_lacks_24 : decode cX12_lacks 24 = .ok (.iconst 0, 1) := by decide +kernel
theorem dX12_lacks_25 : decode cX12_lacks 25 = .ok (.goto 4, 3) := by decide +kernel
theorem dX12_lacks_28 : decode cX12_lacks 28 = .ok (.iload_n 1, 1) := by decide +kernel
theorem dX12_lacks_29 : decode cX12_lacks 29 = .ok (.ireturn, 1) := by decide +kernel
theorem dX12_needIn_0 : decode cX12_needIn 0 = .ok (.iload_n 1, 1) := by decide +kernel
theorem dX12_needIn_1 : decode cX12_needIn 1 = .ok (.i2l, 1) := by decide +kernel
theorem dX12_needIn_2 : decode cX12_needIn 2 = .ok (.lconst 0, 1) := by decide +kernel
theorem dX12_needIn_3 : decode cX12_needIn 3 = .ok (.ldc2_w 328, 3) := by decide +kernel
theorem dX12_needIn_6 : decode cX12_needIn 6 = .ok (.invokestatic 72, 3) := by decide +kernel
theorem dX12_needIn_9 : decode cX12_needIn 9 = .ok (.ifCond .eq 11, 3) := by decide +kernel
theorem dX12_needIn_12 : decode cX12_needIn 12 = .ok (.aload_n 0, 1) := by decide +kernel
theorem dX12_needIn_13 : decode cX12_needIn 13 = .ok (.iload_n 1, 1) := by decide +kernel
theorem dX12_needIn_14 : decode cX12_needIn 14 = .ok (.invokevirtual 122, 3) := by decide +kernel
theorem dX12_needIn_17 : decode cX12_needIn 17 = .ok (.goto 4, 3) := by decide +kernel
theorem dX12_needIn_20 : decode cX12_needIn 20 = .ok (.iconst (-1), 1) := by decide +kernel
theorem dX12_needIn_21 : decode cX12_needIn 21 = .ok (.ireturn, 1) := by decide +kernel
theorem dX12_ashoreOn_0 : decode cX12_ashoreOn 0 = .ok (.iconst 0, 1) := by decide +kernel
theorem dX12_ashoreOn_1 : decode cX12_ashoreOn 1 = .ok (.istore_n 2, 1) := by decide +kernel
theorem dX12_ashoreOn_2 : decode cX12_ashoreOn 2 = .ok (.iconst 0, 1) := by decide +kernel
theorem dX12_ashoreOn_3 : decode cX12_ashoreOn 3 = .ok (.istore_n 3, 1) := by decide +kernel
theorem dX12_ashoreOn_4 : decode cX12_ashoreOn 4 = .ok (.iload_n 3, 1) := by decide +kernel
theorem dX12_ashoreOn_5 : decode cX12_ashoreOn 5 = .ok (.aload_n 0, 1) := by decide +kernel
theorem dX12_ashoreOn_6 : decode cX12_ashoreOn 6 = .ok (.getfield 55, 3) := by decide +kernel
theorem dX12_ashoreOn_9 : decode cX12_ashoreOn 9 = .ok (.if_icmp .ge 40, 3) := by decide +kernel
theorem dX12_ashoreOn_12 : decode cX12_ashoreOn 12 = .ok (.iload_n 2, 1) := by decide +kernel
theorem dX12_ashoreOn_13 : decode cX12_ashoreOn 13 = .ok (.aload_n 0, 1) := by decide +kernel
theorem dX12_ashoreOn_14 : decode cX12_ashoreOn 14 = .ok (.iload_n 3, 1) := by decide +kernel
theorem dX12_ashoreOn_15 : decode cX12_ashoreOn 15 = .ok (.invokevirtual 91, 3) := by decide +kernel
theorem dX12_ashoreOn_18 : decode cX12_ashoreOn 18 = .ok (.ifCond .eq 22, 3) := by decide +kernel
theorem dX12_ashoreOn_21 : decode cX12_ashoreOn 21 = .ok (.aload_n 0, 1) := by decide +kernel
theorem dX12_ashoreOn_22 : decode cX12_ashoreOn 22 = .ok (.aload_n 0, 1) := by decide +kernel
theorem dX12_ashoreOn_23 : decode cX12_ashoreOn 23 = .ok (.iload_n 3, 1) := by decide +kernel
theorem dX12_ashoreOn_24 : decode cX12_ashoreOn 24 = .ok (.iconst 1, 1) := by decide +kernel
theorem dX12_ashoreOn_25 : decode cX12_ashoreOn 25 = .ok (.invokevirtual 81, 3) := by decide +kernel
theorem dX12_ashoreOn_28 : decode cX12_ashoreOn 28 = .ok (.iconst 1, 1) := by decide +kernel
theorem dX12_ashoreOn_29 : decode cX12_ashoreOn 29 = .ok (.invokevirtual 85, 3) := by decide +kernel
theorem dX12_ashoreOn_32 : decode cX12_ashoreOn 32 = .ok (.iload_n 1, 1) := by decide +kernel
theorem dX12_ashoreOn_33 : decode cX12_ashoreOn 33 = .ok (.if_icmp .le 7, 3) := by decide +kernel
theorem dX12_ashoreOn_36 : decode cX12_ashoreOn 36 = .ok (.iconst 0, 1) := by decide +kernel
theorem dX12_ashoreOn_37 : decode cX12_ashoreOn 37 = .ok (.goto 4, 3) := by decide +kernel
theorem dX12_ashoreOn_40 : decode cX12_ashoreOn 40 = .ok (.iconst 1, 1) := by decide +kernel
theorem dX12_ashoreOn_41 : decode cX12_ashoreOn 41 = .ok (.iadd, 1) := by decide +kernel
theorem dX12_ashoreOn_42 : decode cX12_ashoreOn 42 = .ok (.istore_n 2, 1) := by decide +kernel
theorem dX12_ashoreOn_43 : decode cX12_ashoreOn 43 = .ok (.iinc 3 1, 3) := by decide +kernel
theorem dX12_ashoreOn_46 : decode cX12_ashoreOn 46 = .ok (.goto (-42), 3) := by decide +kernel
theorem dX12_ashoreOn_49 : decode cX12_ashoreOn 49 = .ok (.iload_n 2, 1) := by decide +kernel
theorem dX12_ashoreOn_50 : decode cX12_ashoreOn 50 = .ok (.ireturn, 1) := by decide +kernel
theorem dX12_bestDay_0 : decode cX12_bestDay 0 = .ok (.iload_n 1, 1) := by decide +kernel
theorem dX12_bestDay_1 : decode cX12_bestDay 1 = .ok (.i2l, 1) := by decide +kernel
theorem dX12_bestDay_2 : decode cX12_bestDay 2 = .ok (.lconst 1, 1) := by decide +kernel
theorem dX12_bestDay_3 : decode cX12_bestDay 3 = .ok (.ldc2_w 260, 3) := by decide +kernel
theorem dX12_bestDay_6 : decode cX12_bestDay 6 = .ok (.invokestatic 72, 3) := by decide +kernel
theorem dX12_bestDay_9 : decode cX12_bestDay 9 = .ok (.ifCond .ne 5, 3) := by decide +kernel
theorem dX12_bestDay_12 : decode cX12_bestDay 12 = .ok (.iconst (-1), 1) := by decide +kernel
theorem dX12_bestDay_13 : decode cX12_bestDay 13 = .ok (.ireturn, 1) := by decide +kernel
theorem dX12_bestDay_14 : decode cX12_bestDay 14 = .ok (.iconst 0, 1) := by decide +kernel
theorem dX12_bestDay_15 : decode cX12_bestDay 15 = .ok (.istore_n 2, 1) := by decide +kernel
theorem dX12_bestDay_16 : decode cX12_bestDay 16 = .ok (.iconst 0, 1) := by decide +kernel
theorem dX12_bestDay_17 : decode cX12_bestDay 17 = .ok (.istore_n 3, 1) := by decide +kernel
theorem dX12_bestDay_18 : decode cX12_bestDay 18 = .ok (.iconst 0, 1) := by decide +kernel
theorem dX12_bestDay_19 : decode cX12_bestDay 19 = .ok (.istore 4, 2) := by decide +kernel
theorem dX12_bestDay_21 : decode cX12_bestDay 21 = .ok (.iload 4, 2) := by decide +kernel
theorem dX12_bestDay_23 : decode cX12_bestDay 23 = .ok (.iload_n 1, 1) := by decide +kernel
theorem dX12_bestDay_24 : decode cX12_bestDay 24 = .ok (.if_icmp .gt 48, 3) := by decide +kernel
theorem dX12_bestDay_27 : decode cX12_bestDay 27 = .ok (.aload_n 0, 1) := by decide +kernel
theorem dX12_bestDay_28 : decode cX12_bestDay 28 = .ok (.aload_n 0, 1) := by decide +kernel
theorem dX12_bestDay_29 : decode cX12_bestDay 29 = .ok (.getfield 30, 3) := by decide +kernel
theorem dX12_bestDay_32 : decode cX12_bestDay 32 = .ok (.iconst 0, 1) := by decide +kernel
theorem dX12_bestDay_33 : decode cX12_bestDay 33 = .ok (.iaload, 1) := by decide +kernel
theorem dX12_bestDay_34 : decode cX12_bestDay 34 = .ok (.iload 4, 2) := by decide +kernel
theorem dX12_bestDay_36 : decode cX12_bestDay 36 = .ok (.iadd, 1) := by decide +kernel
theorem dX12_bestDay_37 : decode cX12_bestDay 37 = .ok (.invokevirtual 330, 3) := by decide +kernel
theorem dX12_bestDay_40 : decode cX12_bestDay 40 = .ok (.aload_n 0, 1) := by decide +kernel
theorem dX12_bestDay_41 : decode cX12_bestDay 41 = .ok (.iload 4, 2) := by decide +kernel
theorem dX12_bestDay_43 : decode cX12_bestDay 43 = .ok (.invokevirtual 122, 3) := by decide +kernel
theorem dX12_bestDay_46 : decode cX12_bestDay 46 = .ok (.isub, 1) := by decide +kernel
theorem dX12_bestDay_47 : decode cX12_bestDay 47 = .ok (.istore 5, 2) := by decide +kernel
theorem dX12_bestDay_49 : decode cX12_bestDay 49 = .ok (.iload 4, 2) := by decide +kernel
theorem dX12_bestDay_51 : decode cX12_bestDay 51 = .ok (.ifCond .eq 9, 3) := by decide +kernel
theorem dX12_bestDay_54 : decode cX12_bestDay 54 = .ok (.iload 5, 2) := by decide +kernel
theorem dX12_bestDay_56 : decode cX12_bestDay 56 = .ok (.iload_n 3, 1) := by decide +kernel
theorem dX12_bestDay_57 : decode cX12_bestDay 57 = .ok (.if_icmp .le 9, 3) := by decide +kernel
theorem dX12_bestDay_60 : decode cX12_bestDay 60 = .ok (.iload 4, 2) := by decide +kernel
theorem dX12_bestDay_62 : decode cX12_bestDay 62 = .ok (.istore_n 2, 1) := by decide +kernel
theorem dX12_bestDay_63 : decode cX12_bestDay 63 = .ok (.iload 5, 2) := by decide +kernel
theorem dX12_bestDay_65 : decode cX12_bestDay 65 = .ok (.istore_n 3, 1) := by decide +kernel
theorem dX12_bestDay_66 : decode cX12_bestDay 66 = .ok (.iinc 4 1, 3) := by decide +kernel
theorem dX12_bestDay_69 : decode cX12_bestDay 69 = .ok (.goto (-48), 3) := by decide +kernel
theorem dX12_bestDay_72 : decode cX12_bestDay 72 = .ok (.iload_n 2, 1) := by decide +kernel
theorem dX12_bestDay_73 : decode cX12_bestDay 73 = .ok (.ireturn, 1) := by decide +kernel
theorem dX12_mightOf_0 : decode cX12_mightOf 0 = .ok (.iconst 0, 1) := by decide +kernel
theorem dX12_mightOf_1 : decode cX12_mightOf 1 = .ok (.istore_n 2, 1) := by decide +kernel
theorem dX12_mightOf_2 : decode cX12_mightOf 2 = .ok (.aload_n 0, 1) := by decide +kernel
theorem dX12_mightOf_3 : decode cX12_mightOf 3 = .ok (.iload_n 1, 1) := by decide +kernel
theorem dX12_mightOf_4 : decode cX12_mightOf 4 = .ok (.invokevirtual 281, 3) := by decide +kernel
theorem dX12_mightOf_7 : decode cX12_mightOf 7 = .ok (.istore_n 3, 1) := by decide +kernel
theorem dX12_mightOf_8 : decode cX12_mightOf 8 = .ok (.iconst 0, 1) := by decide +kernel
theorem dX12_mightOf_9 : decode cX12_mightOf 9 = .ok (.istore 4, 2) := by decide +kernel
theorem dX12_mightOf_11 : decode cX12_mightOf 11 = .ok (.iload 4, 2) := by decide +kernel
theorem dX12_mightOf_13 : decode cX12_mightOf 13 = .ok (.aload_n 0, 1) := by decide +kernel
theorem dX12_mightOf_14 : decode cX12_mightOf 14 = .ok (.getfield 55, 3) := by decide +kernel
theorem dX12_mightOf_17 : decode cX12_mightOf 17 = .ok (.if_icmp .ge 36, 3) := by decide +kernel
theorem dX12_mightOf_20 : decode cX12_mightOf 20 = .ok (.iload_n 2, 1) := by decide +kernel
theorem dX12_mightOf_21 : decode cX12_mightOf 21 = .ok (.iload_n 3, 1) := by decide +kernel
theorem dX12_mightOf_22 : decode cX12_mightOf 22 = .ok (.iload 4, 2) := by decide +kernel
theorem dX12_mightOf_24 : decode cX12_mightOf 24 = .ok (.ishr, 1) := by decide +kernel
theorem dX12_mightOf_25 : decode cX12_mightOf 25 = .ok (.iconst 1, 1) := by decide +kernel
theorem dX12_mightOf_26 : decode cX12_mightOf 26 = .ok (.iand, 1) := by decide +kernel
theorem dX12_mightOf_27 : decode cX12_mightOf 27 = .ok (.iconst 1, 1) := by decide +kernel
theorem dX12_mightOf_28 : decode cX12_mightOf 28 = .ok (.if_icmp .ne 16, 3) := by decide +kernel
theorem dX12_mightOf_31 : decode cX12_mightOf 31 = .ok (.aload_n 0, 1) := by decide +kernel
theorem dX12_mightOf_32 : decode cX12_mightOf 32 = .ok (.iload 4, 2) := by decide +kernel
theorem dX12_mightOf_34 : decode cX12_mightOf 34 = .ok (.invokevirtual 91, 3) := by decide +kernel
theorem dX12_mightOf_37 : decode cX12_mightOf 37 = .ok (.ifCond .eq 7, 3) := by decide +kernel
theorem dX12_mightOf_40 : decode cX12_mightOf 40 = .ok (.iconst 1, 1) := by decide +kernel
theorem dX12_mightOf_41 : decode cX12_mightOf 41 = .ok (.goto 4, 3) := by decide +kernel
theorem dX12_mightOf_44 : decode cX12_mightOf 44 = .ok (.iconst 0, 1) := by decide +kernel
theorem dX12_mightOf_45 : decode cX12_mightOf 45 = .ok (.iadd, 1) := by decide +kernel
theorem dX12_mightOf_46 : decode cX12_mightOf 46 = .ok (.istore_n 2, 1) := by decide +kernel
theorem dX12_mightOf_47 : decode cX12_mightOf 47 = .ok (.iinc 4 1, 3) := by decide +kernel
theorem dX12_mightOf_50 : decode cX12_mightOf 50 = .ok (.goto (-39), 3) := by decide +kernel
theorem dX12_mightOf_53 : decode cX12_mightOf 53 = .ok (.iload_n 2, 1) := by decide +kernel
theorem dX12_mightOf_54 : decode cX12_mightOf 54 = .ok (.aload_n 0, 1) := by decide +kernel
theorem dX12_mightOf_55 : decode cX12_mightOf 55 = .ok (.getfield 17, 3) := by decide +kernel
theorem dX12_mightOf_58 : decode cX12_mightOf 58 = .ok (.bipush 7, 2) := by decide +kernel
theorem dX12_mightOf_60 : decode cX12_mightOf 60 = .ok (.iaload, 1) := by decide +kernel
theorem dX12_mightOf_61 : decode cX12_mightOf 61 = .ok (.if_icmp .le 13, 3) := by decide +kernel
theorem dX12_mightOf_64 : decode cX12_mightOf 64 = .ok (.aload_n 0, 1) := by decide +kernel
theorem dX12_mightOf_65 : decode cX12_mightOf 65 = .ok (.getfield 17, 3) := by decide +kernel
theorem dX12_mightOf_68 : decode cX12_mightOf 68 = .ok (.bipush 7, 2) := by decide +kernel
theorem dX12_mightOf_70 : decode cX12_mightOf 70 = .ok (.iaload, 1) := by decide +kernel
theorem dX12_mightOf_71 : decode cX12_mightOf 71 = .ok (.goto 4, 3) := by decide +kernel
theorem dX12_mightOf_74 : decode cX12_mightOf 74 = .ok (.iload_n 2, 1) := by decide +kernel
theorem dX12_mightOf_75 : decode cX12_mightOf 75 = .ok (.istore_n 2, 1) := by decide +kernel
theorem dX12_mightOf_76 : decode cX12_mightOf 76 = .ok (.iload_n 2, 1) := by decide +kernel
theorem dX12_mightOf_77 : decode cX12_mightOf 77 = .ok (.aload_n 0, 1) := by decide +kernel
theorem dX12_mightOf_78 : decode cX12_mightOf 78 = .ok (.invokevirtual 115, 3) := by decide +kernel
theorem dX12_mightOf_81 : decode cX12_mightOf 81 = .ok (.ifCond .eq 12, 3) := by decide +kernel
theorem dX12_mightOf_84 : decode cX12_mightOf 84 = .ok (.aload_n 0, 1) := by decide +kernel
theorem dX12_mightOf_85 : decode cX12_mightOf 85 = .ok (.iload_n 1, 1) := by decide +kernel
theorem dX12_mightOf_86 : decode cX12_mightOf 86 = .ok (.iconst 4, 1) := by decide +kernel
theorem dX12_mightOf_87 : decode cX12_mightOf 87 = .ok (.invokevirtual 81, 3) := by decide +kernel
theorem dX12_mightOf_90 : decode cX12_mightOf 90 = .ok (.goto 4, 3) := by decide +kernel
theorem dX12_mightOf_93 : decode cX12_mightOf 93 = .ok (.iconst 0, 1) := by decide +kernel
theorem dX12_mightOf_94 : decode cX12_mightOf 94 = .ok (.isub, 1) := by decide +kernel
theorem dX12_mightOf_95 : decode cX12_mightOf 95 = .ok (.ireturn, 1) := by decide +kernel
theorem dX12_mightiest_0 : decode cX12_mightiest 0 = .ok (.bipush (-2), 2) := by decide +kernel
theorem dX12_mightiest_2 : decode cX12_mightiest 2 = .ok (.istore_n 1, 1) := by decide +kernel
theorem dX12_mightiest_3 : decode cX12_mightiest 3 = .ok (.iconst 0, 1) := by decide +kernel
theorem dX12_mightiest_4 : decode cX12_mightiest 4 = .ok (.istore_n 2, 1) := by decide +kernel
theorem dX12_mightiest_5 : decode cX12_mightiest 5 = .ok (.iconst 0, 1) := by decide +kernel
theorem dX12_mightiest_6 : decode cX12_mightiest 6 = .ok (.istore_n 3, 1) := by decide +kernel
theorem dX12_mightiest_7 : decode cX12_mightiest 7 = .ok (.iload_n 3, 1) := by decide +kernel
theorem dX12_mightiest_8 : decode cX12_mightiest 8 = .ok (.aload_n 0, 1) := by decide +kernel
theorem dX12_mightiest_9 : decode cX12_mightiest 9 = .ok (.getfield 55, 3) := by decide +kernel
theorem dX12_mightiest_12 : decode cX12_mightiest 12 = .ok (.if_icmp .ge 34, 3) := by decide +kernel
theorem dX12_mightiest_15 : decode cX12_mightiest 15 = .ok (.aload_n 0, 1) := by decide +kernel
theorem dX12_mightiest_16 : decode cX12_mightiest 16 = .ok (.iload_n 3, 1) := by decide +kernel
theorem dX12_mightiest_17 : decode cX12_mightiest 17 = .ok (.invokevirtual 91, 3) := by decide +kernel
theorem dX12_mightiest_20 : decode cX12_mightiest 20 = .ok (.ifCond .ne 20, 3) := by decide +kernel
theorem dX12_mightiest_23 : decode cX12_mightiest 23 = .ok (.aload_n 0, 1) := by decide +kernel
theorem dX12_mightiest_24 : decode cX12_mightiest 24 = .ok (.iload_n 3, 1) := by decide +kernel
theorem dX12_mightiest_25 : decode cX12_mightiest 25 = .ok (.invokevirtual 333, 3) := by decide +kernel
theorem dX12_mightiest_28 : decode cX12_mightiest 28 = .ok (.iload_n 2, 1) := by decide +kernel
theorem dX12_mightiest_29 : decode cX12_mightiest 29 = .ok (.if_icmp .le 11, 3) := by decide +kernel
theorem dX12_mightiest_32 : decode cX12_mightiest 32 = .ok (.iload_n 3, 1) := by decide +kernel
theorem dX12_mightiest_33 : decode cX12_mightiest 33 = .ok (.istore_n 1, 1) := by decide +kernel
theorem dX12_mightiest_34 : decode cX12_mightiest 34 = .ok (.aload_n 0, 1) := by decide +kernel
theorem dX12_mightiest_35 : decode cX12_mightiest 35 = .ok (.iload_n 3, 1) := by decide +kernel
theorem dX12_mightiest_36 : decode cX12_mightiest 36 = .ok (.invokevirtual 333, 3) := by decide +kernel
theorem dX12_mightiest_39 : decode cX12_mightiest 39 = .ok (.istore_n 2, 1) := by decide +kernel
theorem dX12_mightiest_40 : decode cX12_mightiest 40 = .ok (.iinc 3 1, 3) := by decide +kernel
theorem dX12_mightiest_43 : decode cX12_mightiest 43 = .ok (.goto (-36), 3) := by decide +kernel
theorem dX12_mightiest_46 : decode cX12_mightiest 46 = .ok (.iload_n 1, 1) := by decide +kernel
theorem dX12_mightiest_47 : decode cX12_mightiest 47 = .ok (.ireturn, 1) := by decide +kernel
theorem dX12_agrees_0 : decode cX12_agrees 0 = .ok (.aload_n 0, 1) := by decide +kernel
theorem dX12_agrees_1 : decode cX12_agrees 1 = .ok (.getfield 30, 3) := by decide +kernel
theorem dX12_agrees_4 : decode cX12_agrees 4 = .ok (.iconst 1, 1) := by decide +kernel
theorem dX12_agrees_5 : decode cX12_agrees 5 = .ok (.iaload, 1) := by decide +kernel
theorem dX12_agrees_6 : decode cX12_agrees 6 = .ok (.ifCond .eq 22, 3) := by decide +kernel
theorem dX12_agrees_9 : decode cX12_agrees 9 = .ok (.aload_n 0, 1) := by decide +kernel
theorem dX12_agrees_10 : decode cX12_agrees 10 = .ok (.invokevirtual 132, 3) := by decide +kernel
theorem dX12_agrees_13 : decode cX12_agrees 13 = .ok (.aload_n 0, 1) := by decide +kernel
theorem dX12_agrees_14 : decode cX12_agrees 14 = .ok (.invokevirtual 312, 3) := by decide +kernel
theorem dX12_agrees_17 : decode cX12_agrees 17 = .ok (.iadd, 1) := by decide +kernel
theorem dX12_agrees_18 : decode cX12_agrees 18 = .ok (.aload_n 0, 1) := by decide +kernel
theorem dX12_agrees_19 : decode cX12_agrees 19 = .ok (.getfield 30, 3) := by decide +kernel
theorem dX12_agrees_22 : decode cX12_agrees 22 = .ok (.bipush 7, 2) := by decide +kernel
theorem dX12_agrees_24 : decode cX12_agrees 24 = .ok (.iaload, 1) := by decide +kernel
theorem dX12_agrees_25 : decode cX12_agrees 25 = .ok (.if_icmp .ne 7, 3) := by decide +kernel
theorem dX12_agrees_28 : decode cX12_agrees 28 = .ok (.iconst 1, 1) := by decide +kernel
theorem dX12_agrees_29 : decode cX12_agrees 29 = .ok (.goto 4, 3) := by decide +kernel
theorem dX12_agrees_32 : decode cX12_agrees 32 = .ok (.iconst 0, 1) := by decide +kernel
theorem dX12_agrees_33 : decode cX12_agrees 33 = .ok (.ireturn, 1) := by decide +kernel
theorem dX12_share_0 : decode cX12_share 0 = .ok (.iload_n 1, 1) := by decide +kernel
theorem dX12_share_1 : decode cX12_share 1 = .ok (.invokestatic 278, 3) := by decide +kernel
theorem dX12_share_4 : decode cX12_share 4 = .ok (.ifCond .ne 7, 3) := by decide +kernel
theorem dX12_share_7 : decode cX12_share 7 = .ok (.ldc_w 336, 3) := by decide +kernel
theorem dX12_share_10 : decode cX12_share 10 = .ok (.freturn, 1) := by decide +kernel
theorem dX12_share_11 : decode cX12_share 11 = .ok (.aload_n 0, 1) := by decide +kernel
theorem dX12_share_12 : decode cX12_share 12 = .ok (.invokevirtual 132, 3) := by decide +kernel
theorem dX12_share_15 : decode cX12_share 15 = .ok (.istore_n 2, 1) := by decide +kernel
theorem dX12_share_16 : decode cX12_share 16 = .ok (.iload_n 2, 1) := by decide +kernel
theorem dX12_share_17 : decode cX12_share 17 = .ok (.ifCond .ne 7, 3) := by decide +kernel
theorem dX12_share_20 : decode cX12_share 20 = .ok (.fconst 0, 1) := by decide +kernel
theorem dX12_share_21 : decode cX12_share 21 = .ok (.goto 15, 3) := by decide +kernel
theorem dX12_share_24 : decode cX12_share 24 = .ok (.aload_n 0, 1) := by decide +kernel
theorem dX12_share_25 : decode cX12_share 25 = .ok (.iload_n 1, 1) := by decide +kernel
theorem dX12_share_26 : decode cX12_share 26 = .ok (.invokevirtual 95, 3) := by decide +kernel
theorem dX12_share_29 : decode cX12_share 29 = .ok (.invokestatic 103, 3) := by decide +kernel
theorem dX12_share_32 : decode cX12_share 32 = .ok (.i2f, 1) := by decide +kernel
theorem dX12_share_33 : decode cX12_share 33 = .ok (.iload_n 2, 1) := by decide +kernel
theorem dX12_share_34 : decode cX12_share 34 = .ok (.i2f, 1) := by decide +kernel
theorem dX12_share_35 : decode cX12_share 35 = .ok (.fdiv, 1) := by decide +kernel
theorem dX12_share_36 : decode cX12_share 36 = .ok (.freturn, 1) := by decide +kernel
theorem dX12_seafaring_0 : decode cX12_seafaring 0 = .ok (.iconst 0, 1) := by decide +kernel
theorem dX12_seafaring_1 : decode cX12_seafaring 1 = .ok (.istore_n 1, 1) := by decide +kernel
theorem dX12_seafaring_2 : decode cX12_seafaring 2 = .ok (.iconst 0, 1) := by decide +kernel
theorem dX12_seafaring_3 : decode cX12_seafaring 3 = .ok (.istore_n 2, 1) := by decide +kernel
theorem dX12_seafaring_4 : decode cX12_seafaring 4 = .ok (.iload_n 2, 1) := by decide +kernel
theorem dX12_seafaring_5 : decode cX12_seafaring 5 = .ok (.aload_n 0, 1) := by decide +kernel
theorem dX12_seafaring_6 : decode cX12_seafaring 6 = .ok (.getfield 55, 3) := by decide +kernel
theorem dX12_seafaring_9 : decode cX12_seafaring 9 = .ok (.if_icmp .ge 18, 3) := by decide +kernel
theorem dX12_seafaring_12 : decode cX12_seafaring 12 = .ok (.iload_n 1, 1) := by decide +kernel
theorem dX12_seafaring_13 : decode cX12_seafaring 13 = .ok (.aload_n 0, 1) := by decide +kernel
theorem dX12_seafaring_14 : decode cX12_seafaring 14 = .ok (.iload_n 2, 1) := by decide +kernel
theorem dX12_seafaring_15 : decode cX12_seafaring 15 = .ok (.iconst 3, 1) := by decide +kernel
theorem dX12_seafaring_16 : decode cX12_seafaring 16 = .ok (.invokevirtual 81, 3) := by decide +kernel
theorem dX12_seafaring_19 : decode cX12_seafaring 19 = .ok (.iadd, 1) := by decide +kernel
theorem dX12_seafaring_20 : decode cX12_seafaring 20 = .ok (.istore_n 1, 1) := by decide +kernel
theorem dX12_seafaring_21 : decode cX12_seafaring 21 = .ok (.iinc 2 1, 3) := by decide +kernel
theorem dX12_seafaring_24 : decode cX12_seafaring 24 = .ok (.goto (-20), 3) := by decide +kernel
theorem dX12_seafaring_27 : decode cX12_seafaring 27 = .ok (.aload_n 0, 1) := by decide +kernel
theorem dX12_seafaring_28 : decode cX12_seafaring 28 = .ok (.getfield 30, 3) := by decide +kernel
theorem dX12_seafaring_31 : decode cX12_seafaring 31 = .ok (.iconst 0, 1) := by decide +kernel
theorem dX12_seafaring_32 : decode cX12_seafaring 32 = .ok (.iaload, 1) := by decide +kernel
theorem dX12_seafaring_33 : decode cX12_seafaring 33 = .ok (.ifCond .ne 7, 3) := by decide +kernel
theorem dX12_seafaring_36 : decode cX12_seafaring 36 = .ok (.dconst 0, 1) := by decide +kernel
theorem dX12_seafaring_37 : decode cX12_seafaring 37 = .ok (.goto 18, 3) := by decide +kernel
theorem dX12_seafaring_40 : decode cX12_seafaring 40 = .ok (.iload_n 1, 1) := by decide +kernel
theorem dX12_seafaring_41 : decode cX12_seafaring 41 = .ok (.i2d, 1) := by decide +kernel
theorem dX12_seafaring_42 : decode cX12_seafaring 42 = .ok (.aload_n 0, 1) := by decide +kernel
theorem dX12_seafaring_43 : decode cX12_seafaring 43 = .ok (.getfield 30, 3) := by decide +kernel
theorem dX12_seafaring_46 : decode cX12_seafaring 46 = .ok (.iconst 0, 1) := by decide +kernel
theorem dX12_seafaring_47 : decode cX12_seafaring 47 = .ok (.iaload, 1) := by decide +kernel
theorem dX12_seafaring_48 : decode cX12_seafaring 48 = .ok (.aload_n 0, 1) := by decide +kernel
theorem dX12_seafaring_49 : decode cX12_seafaring 49 = .ok (.getfield 55, 3) := by decide +kernel
theorem dX12_seafaring_52 : decode cX12_seafaring 52 = .ok (.imul, 1) := by decide +kernel
theorem dX12_seafaring_53 : decode cX12_seafaring 53 = .ok (.i2d, 1) := by decide +kernel
theorem dX12_seafaring_54 : decode cX12_seafaring 54 = .ok (.ddiv, 1) := by decide +kernel
theorem dX12_seafaring_55 : decode cX12_seafaring 55 = .ok (.dreturn, 1) := by decide +kernel
theorem dX12_startsText_0 : decode cX12_startsText 0 = .ok (.aload_n 0, 1) := by decide +kernel
theorem dX12_startsText_1 : decode cX12_startsText 1 = .ok (.iconst 0, 1) := by decide +kernel
theorem dX12_startsText_2 : decode cX12_startsText 2 = .ok (.putfield 337, 3) := by decide +kernel
theorem dX12_startsText_5 : decode cX12_startsText 5 = .ok (.aload_n 0, 1) := by decide +kernel
theorem dX12_startsText_6 : decode cX12_startsText 6 = .ok (.iload_n 1, 1) := by decide +kernel
theorem dX12_startsText_7 : decode cX12_startsText 7 = .ok (.putfield 340, 3) := by decide +kernel
theorem dX12_startsText_10 : decode cX12_startsText 10 = .ok (.aload_n 0, 1) := by decide +kernel
theorem dX12_startsText_11 : decode cX12_startsText 11 = .ok (.bipush (-2), 2) := by decide +kernel
theorem dX12_startsText_13 : decode cX12_startsText 13 = .ok (.putfield 343, 3) := by decide +kernel
theorem dX12_startsText_16 : decode cX12_startsText 16 = .ok (.return_, 1) := by decide +kernel
theorem dX12_says_0 : decode cX12_says 0 = .ok (.aload_n 0, 1) := by decide +kernel
theorem dX12_says_1 : decode cX12_says 1 = .ok (.aload_n 0, 1) := by decide +kernel
theorem dX12_says_2 : decode cX12_says 2 = .ok (.getfield 337, 3) := by decide +kernel
theorem dX12_says_5 : decode cX12_says 5 = .ok (.aload_n 0, 1) := by decide +kernel
theorem dX12_says_6 : decode cX12_says 6 = .ok (.getfield 340, 3) := by decide +kernel
theorem dX12_says_9 : decode cX12_says 9 = .ok (.if_icmp .ne 7, 3) := by decide +kernel
theorem dX12_says_12 : decode cX12_says 12 = .ok (.iload_n 1, 1) := by decide +kernel
theorem dX12_says_13 : decode cX12_says 13 = .ok (.goto 7, 3) := by decide +kernel
theorem dX12_says_16 : decode cX12_says 16 = .ok (.aload_n 0, 1) := by decide +kernel
theorem dX12_says_17 : decode cX12_says 17 = .ok (.getfield 343, 3) := by decide +kernel
theorem dX12_says_20 : decode cX12_says 20 = .ok (.putfield 343, 3) := by decide +kernel
theorem dX12_says_23 : decode cX12_says 23 = .ok (.aload_n 0, 1) := by decide +kernel
theorem dX12_says_24 : decode cX12_says 24 = .ok (.dup, 1) := by decide +kernel
theorem dX12_says_25 : decode cX12_says 25 = .ok (.getfield 337, 3) := by decide +kernel
theorem dX12_says_28 : decode cX12_says 28 = .ok (.iconst 1, 1) := by decide +kernel
theorem dX12_says_29 : decode cX12_says 29 = .ok (.iadd, 1) := by decide +kernel
theorem dX12_says_30 : decode cX12_says 30 = .ok (.putfield 337, 3) := by decide +kernel
theorem dX12_says_33 : decode cX12_says 33 = .ok (.return_, 1) := by decide +kernel
theorem dX12_saysWord_0 : decode cX12_saysWord 0 = .ok (.bipush 35, 2) := by decide +kernel
theorem dX12_saysWord_2 : decode cX12_saysWord 2 = .ok (.istore_n 3, 1) := by decide +kernel
theorem dX12_saysWord_3 : decode cX12_saysWord 3 = .ok (.iload_n 3, 1) := by decide +kernel
theorem dX12_saysWord_4 : decode cX12_saysWord 4 = .ok (.ifCond .lt 33, 3) := by decide +kernel
theorem dX12_saysWord_7 : decode cX12_saysWord 7 = .ok (.lload_n 1, 1) := by decide +kernel
theorem dX12_saysWord_8 : decode cX12_saysWord 8 = .ok (.iload_n 3, 1) := by decide +kernel
theorem dX12_saysWord_9 : decode cX12_saysWord 9 = .ok (.lshr, 1) := by decide +kernel
theorem dX12_saysWord_10 : decode cX12_saysWord 10 = .ok (.ldc2_w 346, 3) := by decide +kernel
theorem dX12_saysWord_13 : decode cX12_saysWord 13 = .ok (.land, 1) := by decide +kernel
theorem dX12_saysWord_14 : decode cX12_saysWord 14 = .ok (.l2i, 1) := by decide +kernel
theorem dX12_saysWord_15 : decode cX12_saysWord 15 = .ok (.istore 4, 2) := by decide +kernel
theorem dX12_saysWord_17 : decode cX12_saysWord 17 = .ok (.iload 4, 2) := by decide +kernel
theorem dX12_saysWord_19 : decode cX12_saysWord 19 = .ok (.ifCond .le 12, 3) := by decide +kernel
theorem dX12_saysWord_22 : decode cX12_saysWord 22 = .ok (.aload_n 0, 1) := by decide +kernel
theorem dX12_saysWord_23 : decode cX12_saysWord 23 = .ok (.bipush 96, 2) := by decide +kernel
theorem dX12_saysWord_25 : decode cX12_saysWord 25 = .ok (.iload 4, 2) := by decide +kernel
theorem dX12_saysWord_27 : decode cX12_saysWord 27 = .ok (.iadd, 1) := by decide +kernel
theorem dX12_saysWord_28 : decode cX12_saysWord 28 = .ok (.invokevirtual 348, 3) := by decide +kernel
theorem dX12_saysWord_31 : decode cX12_saysWord 31 = .ok (.iinc 3 (-5), 3) := by decide +kernel
theorem dX12_saysWord_34 : decode cX12_saysWord 34 = .ok (.goto (-31), 3) := by decide +kernel
theorem dX12_saysWord_37 : decode cX12_saysWord 37 = .ok (.return_, 1) := by decide +kernel
theorem dX12_saysNumber_0 : decode cX12_saysNumber 0 = .ok (.iload_n 1, 1) := by decide +kernel
theorem dX12_saysNumber_1 : decode cX12_saysNumber 1 = .ok (.istore_n 2, 1) := by decide +kernel
theorem dX12_saysNumber_2 : decode cX12_saysNumber 2 = .ok (.iload_n 2, 1) := by decide +kernel
theorem dX12_saysNumber_3 : decode cX12_saysNumber 3 = .ok (.ifCond .ge 12, 3) := by decide +kernel
theorem dX12_saysNumber_6 : decode cX12_saysNumber 6 = .ok (.aload_n 0, 1) := by decide +kernel
theorem dX12_saysNumber_7 : decode cX12_saysNumber 7 = .ok (.bipush 45, 2) := by decide +kernel
theorem dX12_saysNumber_9 : decode cX12_saysNumber 9 = .ok (.invokevirtual 348, 3) := by decide +kernel
theorem dX12_saysNumber_12 : decode cX12_saysNumber 12 = .ok (.iload_n 2, 1) := by decide +kernel
theorem dX12_saysNumber_13 : decode cX12_saysNumber 13 = .ok (.ineg, 1) := by decide +kernel
theorem dX12_saysNumber_14 : decode cX12_saysNumber 14 = .ok (.istore_n 2, 1) := by decide +kernel
theorem dX12_saysNumber_15 : decode cX12_saysNumber 15 = .ok (.iconst 1, 1) := by decide +kernel
theorem dX12_saysNumber_16 : decode cX12_saysNumber 16 = .ok (.istore_n 3, 1) := by decide +kernel
theorem dX12_saysNumber_17 : decode cX12_saysNumber 17 = .ok (.iload_n 2, 1) := by decide +kernel
theorem dX12_saysNumber_18 : decode cX12_saysNumber 18 = .ok (.iload_n 3, 1) := by decide +kernel
theorem dX12_saysNumber_19 : decode cX12_saysNumber 19 = .ok (.idiv, 1) := by decide +kernel
theorem dX12_saysNumber_20 : decode cX12_saysNumber 20 = .ok (.bipush 9, 2) := by decide +kernel
theorem dX12_saysNumber_22 : decode cX12_saysNumber 22 = .ok (.if_icmp .le 11, 3) := by decide +kernel
theorem dX12_saysNumber_25 : decode cX12_saysNumber 25 = .ok (.iload_n 3, 1) := by decide +kernel
theorem dX12_saysNumber_26 : decode cX12_saysNumber 26 = .ok (.bipush 10, 2) := by decide +kernel
theorem dX12_saysNumber_28 : decode cX12_saysNumber 28 = .ok (.imul, 1) := by decide +kernel
theorem dX12_saysNumber_29 : decode cX12_saysNumber 29 = .ok (.istore_n 3, 1) := by decide +kernel
theorem dX12_saysNumber_30 : decode cX12_saysNumber 30 = .ok (.goto (-13), 3) := by decide +kernel
theorem dX12_saysNumber_33 : decode cX12_saysNumber 33 = .ok (.iload_n 3, 1) := by decide +kernel
theorem dX12_saysNumber_34 : decode cX12_saysNumber 34 = .ok (.ifCond .le 24, 3) := by decide +kernel
theorem dX12_saysNumber_37 : decode cX12_saysNumber 37 = .ok (.aload_n 0, 1) := by decide +kernel
theorem dX12_saysNumber_38 : decode cX12_saysNumber 38 = .ok (.bipush 48, 2) := by decide +kernel
theorem dX12_saysNumber_40 : decode cX12_saysNumber 40 = .ok (.iload_n 2, 1) := by decide +kernel
theorem dX12_saysNumber_41 : decode cX12_saysNumber 41 = .ok (.iload_n 3, 1) := by decide +kernel
theorem dX12_saysNumber_42 : decode cX12_saysNumber 42 = .ok (.idiv, 1) := by decide +kernel
theorem dX12_saysNumber_43 : decode cX12_saysNumber 43 = .ok (.bipush 10, 2) := by decide +kernel
theorem dX12_saysNumber_45 : decode cX12_saysNumber 45 = .ok (.irem, 1) := by decide +kernel
theorem dX12_saysNumber_46 : decode cX12_saysNumber 46 = .ok (.iadd, 1) := by decide +kernel
theorem dX12_saysNumber_47 : decode cX12_saysNumber 47 = .ok (.invokevirtual 348, 3) := by decide +kernel
theorem dX12_saysNumber_50 : decode cX12_saysNumber 50 = .ok (.iload_n 3, 1) := by decide +kernel
theorem dX12_saysNumber_51 : decode cX12_saysNumber 51 = .ok (.bipush 10, 2) := by decide +kernel
theorem dX12_saysNumber_53 : decode cX12_saysNumber 53 = .ok (.idiv, 1) := by decide +kernel
theorem dX12_saysNumber_54 : decode cX12_saysNumber 54 = .ok (.istore_n 3, 1) := by decide +kernel
theorem dX12_saysNumber_55 : decode cX12_saysNumber 55 = .ok (.goto (-22), 3) := by decide +kernel
theorem dX12_saysNumber_58 : decode cX12_saysNumber 58 = .ok (.return_, 1) := by decide +kernel
theorem dX12_saysPerson_0 : decode cX12_saysPerson 0 = .ok (.aload_n 0, 1) := by decide +kernel
theorem dX12_saysPerson_1 : decode cX12_saysPerson 1 = .ok (.iload_n 1, 1) := by decide +kernel
theorem dX12_saysPerson_2 : decode cX12_saysPerson 2 = .ok (.iconst 5, 1) := by decide +kernel
theorem dX12_saysPerson_3 : decode cX12_saysPerson 3 = .ok (.invokevirtual 81, 3) := by decide +kernel
theorem dX12_saysPerson_6 : decode cX12_saysPerson 6 = .ok (.istore_n 2, 1) := by decide +kernel
theorem dX12_saysPerson_7 : decode cX12_saysPerson 7 = .ok (.aload_n 0, 1) := by decide +kernel
theorem dX12_saysPerson_8 : decode cX12_saysPerson 8 = .ok (.aload_n 0, 1) := by decide +kernel
theorem dX12_saysPerson_9 : decode cX12_saysPerson 9 = .ok (.getfield 21, 3) := by decide +kernel
theorem dX12_saysPerson_12 : decode cX12_saysPerson 12 = .ok (.iload_n 1, 1) := by decide +kernel
theorem dX12_saysPerson_13 : decode cX12_saysPerson 13 = .ok (.iaload, 1) := by decide +kernel
theorem dX12_saysPerson_14 : decode cX12_saysPerson 14 = .ok (.i2l, 1) := by decide +kernel
theorem dX12_saysPerson_15 : decode cX12_saysPerson 15 = .ok (.invokevirtual 351, 3) := by decide +kernel
theorem dX12_saysPerson_18 : decode cX12_saysPerson 18 = .ok (.aload_n 0, 1) := by decide +kernel
theorem dX12_saysPerson_19 : decode cX12_saysPerson 19 = .ok (.bipush 32, 2) := by decide +kernel
theorem dX12_saysPerson_21 : decode cX12_saysPerson 21 = .ok (.invokevirtual 348, 3) := by decide +kernel
theorem dX12_saysPerson_24 : decode cX12_saysPerson 24 = .ok (.aload_n 0, 1) := by decide +kernel
theorem dX12_saysPerson_25 : decode cX12_saysPerson 25 = .ok (.iload_n 2, 1) := by decide +kernel
theorem dX12_saysPerson_26 : decode cX12_saysPerson 26 = .ok (.ifCond .ne 9, 3) := by decide +kernel
theorem dX12_saysPerson_29 : decode cX12_saysPerson 29 = .ok (.ldc2_w 355, 3) := by decide +kernel
theorem dX12_saysPerson_32 : decode cX12_saysPerson 32 = .ok (.goto 28, 3) := by decide +kernel
theorem dX12_saysPerson_35 : decode cX12_saysPerson 35 = .ok (.iload_n 2, 1) := by decide +kernel
theorem dX12_saysPerson_36 : decode cX12_saysPerson 36 = .ok (.iconst 1, 1) := by decide +kernel
theorem dX12_saysPerson_37 : decode cX12_saysPerson 37 = .ok (.if_icmp .ne 9, 3) := by decide +kernel
theorem dX12_saysPerson_40 : decode cX12_saysPerson 40 = .ok (.ldc2_w 357, 3) := by decide +kernel
theorem dX12_saysPerson_43 : decode cX12_saysPerson 43 = .ok (.goto 17, 3) := by decide +kernel
theorem dX12_saysPerson_46 : decode cX12_saysPerson 46 = .ok (.iload_n 2, 1) := by decide +kernel
theorem dX12_saysPerson_47 : decode cX12_saysPerson 47 = .ok (.iconst 2, 1) := by decide +kernel
theorem dX12_saysPerson_48 : decode cX12_saysPerson 48 = .ok (.if_icmp .ne 9, 3) := by decide +kernel
theorem dX12_saysPerson_51 : decode cX12_saysPerson 51 = .ok (.ldc2_w 359, 3) := by decide +kernel
theorem dX12_saysPerson_54 : decode cX12_saysPerson 54 = .ok (.goto 6, 3) := by decide +kernel
theorem dX12_saysPerson_57 : decode cX12_saysPerson 57 = .ok (.ldc2_w 361, 3) := by decide +kernel
theorem dX12_saysPerson_60 : decode cX12_saysPerson 60 = .ok (.invokevirtual 351, 3) := by decide +kernel
theorem dX12_saysPerson_63 : decode cX12_saysPerson 63 = .ok (.aload_n 0, 1) := by decide +kernel
theorem dX12_saysPerson_64 : decode cX12_saysPerson 64 = .ok (.iload_n 1, 1) := by decide +kernel
theorem dX12_saysPerson_65 : decode cX12_saysPerson 65 = .ok (.bipush 6, 2) := by decide +kernel
theorem dX12_saysPerson_67 : decode cX12_saysPerson 67 = .ok (.invokevirtual 81, 3) := by decide +kernel
theorem dX12_saysPerson_70 : decode cX12_saysPerson 70 = .ok (.ifCond .lt 26, 3) := by decide +kernel
theorem dX12_saysPerson_73 : decode cX12_saysPerson 73 = .ok (.aload_n 0, 1) := by decide +kernel
theorem dX12_saysPerson_74 : decode cX12_saysPerson 74 = .ok (.bipush 32, 2) := by decide +kernel
theorem dX12_saysPerson_76 : decode cX12_saysPerson 76 = .ok (.invokevirtual 348, 3) := by decide +kernel
theorem dX12_saysPerson_79 : decode cX12_saysPerson 79 = .ok (.aload_n 0, 1) := by decide +kernel
theorem dX12_saysPerson_80 : decode cX12_saysPerson 80 = .ok (.aload_n 0, 1) := by decide +kernel
theorem dX12_saysPerson_81 : decode cX12_saysPerson 81 = .ok (.getfield 21, 3) := by decide +kernel
theorem dX12_saysPerson_84 : decode cX12_saysPerson 84 = .ok (.aload_n 0, 1) := by decide +kernel
theorem dX12_saysPerson_85 : decode cX12_saysPerson 85 = .ok (.iload_n 1, 1) := by decide +kernel
theorem dX12_saysPerson_86 : decode cX12_saysPerson 86 = .ok (.bipush 6, 2) := by decide +kernel
theorem dX12_saysPerson_88 : decode cX12_saysPerson 88 = .ok (.invokevirtual 81, 3) := by decide +kernel
theorem dX12_saysPerson_91 : decode cX12_saysPerson 91 = .ok (.iaload, 1) := by decide +kernel
theorem dX12_saysPerson_92 : decode cX12_saysPerson 92 = .ok (.i2l, 1) := by decide +kernel
theorem dX12_saysPerson_93 : decode cX12_saysPerson 93 = .ok (.invokevirtual 351, 3) := by decide +kernel
theorem dX12_saysPerson_96 : decode cX12_saysPerson 96 = .ok (.aload_n 0, 1) := by decide +kernel
theorem dX12_saysPerson_97 : decode cX12_saysPerson 97 = .ok (.iload_n 1, 1) := by decide +kernel
theorem dX12_saysPerson_98 : decode cX12_saysPerson 98 = .ok (.invokevirtual 268, 3) := by decide +kernel
theorem dX12_saysPerson_101 : decode cX12_saysPerson 101 = .ok (.ifCond .eq 20, 3) := by decide +kernel
theorem dX12_saysPerson_104 : decode cX12_saysPerson 104 = .ok (.aload_n 0, 1) := by decide +kernel
theorem dX12_saysPerson_105 : decode cX12_saysPerson 105 = .ok (.bipush 32, 2) := by decide +kernel
theorem dX12_saysPerson_107 : decode cX12_saysPerson 107 = .ok (.invokevirtual 348, 3) := by decide +kernel
theorem dX12_saysPerson_110 : decode cX12_saysPerson 110 = .ok (.aload_n 0, 1) := by decide +kernel
theorem dX12_saysPerson_111 : decode cX12_saysPerson 111 = .ok (.aload_n 0, 1) := by decide +kernel
theorem dX12_saysPerson_112 : decode cX12_saysPerson 112 = .ok (.iload_n 1, 1) := by decide +kernel
theorem dX12_saysPerson_113 : decode cX12_saysPerson 113 = .ok (.bipush 8, 2) := by decide +kernel
theorem dX12_saysPerson_115 : decode cX12_saysPerson 115 = .ok (.invokevirtual 81, 3) := by decide +kernel
theorem dX12_saysPerson_118 : decode cX12_saysPerson 118 = .ok (.invokevirtual 363, 3) := by decide +kernel
theorem dX12_saysPerson_121 : decode cX12_saysPerson 121 = .ok (.aload_n 0, 1) := by decide +kernel
theorem dX12_saysPerson_122 : decode cX12_saysPerson 122 = .ok (.iload_n 1, 1) := by decide +kernel
theorem dX12_saysPerson_123 : decode cX12_saysPerson 123 = .ok (.invokevirtual 91, 3) := by decide +kernel
theorem dX12_saysPerson_126 : decode cX12_saysPerson 126 = .ok (.ifCond .eq 15, 3) := by decide +kernel
theorem dX12_saysPerson_129 : decode cX12_saysPerson 129 = .ok (.aload_n 0, 1) := by decide +kernel
theorem dX12_saysPerson_130 : decode cX12_saysPerson 130 = .ok (.bipush 32, 2) := by decide +kernel
theorem dX12_saysPerson_132 : decode cX12_saysPerson 132 = .ok (.invokevirtual 348, 3) := by decide +kernel
theorem dX12_saysPerson_135 : decode cX12_saysPerson 135 = .ok (.aload_n 0, 1) := by decide +kernel
theorem dX12_saysPerson_136 : decode cX12_saysPerson 136 = .ok (.bipush 42, 2) := by decide +kernel
theorem dX12_saysPerson_138 : decode cX12_saysPerson 138 = .ok (.invokevirtual 348, 3) := by decide +kernel
theorem dX12_saysPerson_141 : decode cX12_saysPerson 141 = .ok (.aload_n 0, 1) := by decide +kernel
theorem dX12_saysPerson_142 : decode cX12_saysPerson 142 = .ok (.bipush 10, 2) := by decide +kernel
theorem dX12_saysPerson_144 : decode cX12_saysPerson 144 = .ok (.invokevirtual 348, 3) := by decide +kernel
theorem dX12_saysPerson_147 : decode cX12_saysPerson 147 = .ok (.return_, 1) := by decide +kernel
theorem dX12_saysView_0 : decode cX12_saysView 0 = .ok (.aload_n 0, 1) := by decide +kernel
theorem dX12_saysView_1 : decode cX12_saysView 1 = .ok (.iload_n 1, 1) := by decide +kernel
theorem dX12_saysView_2 : decode cX12_saysView 2 = .ok (.invokevirtual 366, 3) := by decide +kernel
theorem dX12_saysView_5 : decode cX12_saysView 5 = .ok (.iconst 0, 1) := by decide +kernel
theorem dX12_saysView_6 : decode cX12_saysView 6 = .ok (.istore_n 2, 1) := by decide +kernel
theorem dX12_saysView_7 : decode cX12_saysView 7 = .ok (.iload_n 2, 1) := by decide +kernel
theorem dX12_saysView_8 : decode cX12_saysView 8 = .ok (.aload_n 0, 1) := by decide +kernel
theorem dX12_saysView_9 : decode cX12_saysView 9 = .ok (.getfield 55, 3) := by decide +kernel
theorem dX12_saysView_12 : decode cX12_saysView 12 = .ok (.if_icmp .ge 14, 3) := by decide +kernel
theorem dX12_saysView_15 : decode cX12_saysView 15 = .ok (.aload_n 0, 1) := by decide +kernel
theorem dX12_saysView_16 : decode cX12_saysView 16 = .ok (.iload_n 2, 1) := by decide +kernel
theorem dX12_saysView_17 : decode cX12_saysView 17 = .ok (.invokevirtual 369, 3) := by decide +kernel
theorem dX12_saysView_20 : decode cX12_saysView 20 = .ok (.iinc 2 1, 3) := by decide +kernel
theorem dX12_saysView_23 : decode cX12_saysView 23 = .ok (.goto (-16), 3) := by decide +kernel
theorem dX12_saysView_26 : decode cX12_saysView 26 = .ok (.return_, 1) := by decide +kernel
theorem dX12_viewLength_0 : decode cX12_viewLength 0 = .ok (.aload_n 0, 1) := by decide +kernel
theorem dX12_viewLength_1 : decode cX12_viewLength 1 = .ok (.iconst (-1), 1) := by decide +kernel
theorem dX12_viewLength_2 : decode cX12_viewLength 2 = .ok (.invokevirtual 372, 3) := by decide +kernel
theorem dX12_viewLength_5 : decode cX12_viewLength 5 = .ok (.aload_n 0, 1) := by decide +kernel
theorem dX12_viewLength_6 : decode cX12_viewLength 6 = .ok (.getfield 337, 3) := by decide +kernel
theorem dX12_viewLength_9 : decode cX12_viewLength 9 = .ok (.ireturn, 1) := by decide +kernel
theorem dX12_viewByte_0 : decode cX12_viewByte 0 = .ok (.iload_n 1, 1) := by decide +kernel
theorem dX12_viewByte_1 : decode cX12_viewByte 1 = .ok (.ifCond .ge 5, 3) := by decide +kernel
theorem dX12_viewByte_4 : decode cX12_viewByte 4 = .ok (.iconst (-1), 1) := by decide +kernel
theorem dX12_viewByte_5 : decode cX12_viewByte 5 = .ok (.ireturn, 1) := by decide +kernel
theorem dX12_viewByte_6 : decode cX12_viewByte 6 = .ok (.aload_n 0, 1) := by decide +kernel
theorem dX12_viewByte_7 : decode cX12_viewByte 7 = .ok (.iload_n 1, 1) := by decide +kernel
theorem dX12_viewByte_8 : decode cX12_viewByte 8 = .ok (.invokevirtual 372, 3) := by decide +kernel
theorem dX12_viewByte_11 : decode cX12_viewByte 11 = .ok (.aload_n 0, 1) := by decide +kernel
theorem dX12_viewByte_12 : decode cX12_viewByte 12 = .ok (.getfield 343, 3) := by decide +kernel
theorem dX12_viewByte_15 : decode cX12_viewByte 15 = .ok (.ireturn, 1) := by decide +kernel
theorem dX12_wordOfLog_0 : decode cX12_wordOfLog 0 = .ok (.iload_n 0, 1) := by decide +kernel
theorem dX12_wordOfLog_1 : decode cX12_wordOfLog 1 = .ok (.tableswitch 71 0 6 #[43, 47, 51, 55, 59, 63, 67], 43) := by decide +kernel
theorem dX12_wordOfLog_44 : decode cX12_wordOfLog 44 = .ok (.ldc2_w 375, 3) := by decide +kernel
theorem dX12_wordOfLog_47 : decode cX12_wordOfLog 47 = .ok (.lreturn, 1) := by decide +kernel
theorem dX12_wordOfLog_48 : decode cX12_wordOfLog 48 = .ok (.ldc2_w 377, 3) := by decide +kernel
theorem dX12_wordOfLog_51 : decode cX12_wordOfLog 51 = .ok (.lreturn, 1) := by decide +kernel
theorem dX12_wordOfLog_52 : decode cX12_wordOfLog 52 = .ok (.ldc2_w 379, 3) := by decide +kernel
theorem dX12_wordOfLog_55 : decode cX12_wordOfLog 55 = .ok (.lreturn, 1) := by decide +kernel
theorem dX12_wordOfLog_56 : decode cX12_wordOfLog 56 = .ok (.ldc2_w 359, 3) := by decide +kernel
theorem dX12_wordOfLog_59 : decode cX12_wordOfLog 59 = .ok (.lreturn, 1) := by decide +kernel
theorem dX12_wordOfLog_60 : decode cX12_wordOfLog 60 = .ok (.ldc2_w 361, 3) := by decide +kernel
theorem dX12_wordOfLog_63 : decode cX12_wordOfLog 63 = .ok (.lreturn, 1) := by decide +kernel
theorem dX12_wordOfLog_64 : decode cX12_wordOfLog 64 = .ok (.ldc2_w 381, 3) := by decide +kernel
theorem dX12_wordOfLog_67 : decode cX12_wordOfLog 67 = .ok (.lreturn, 1) := by decide +kernel
theorem dX12_wordOfLog_68 : decode cX12_wordOfLog 68 = .ok (.ldc2_w 383, 3) := by decide +kernel
theorem dX12_wordOfLog_71 : decode cX12_wordOfLog 71 = .ok (.lreturn, 1) := by decide +kernel
theorem dX12_wordOfLog_72 : decode cX12_wordOfLog 72 = .ok (.ldc2_w 385, 3) := by decide +kernel
theorem dX12_wordOfLog_75 : decode cX12_wordOfLog 75 = .ok (.lreturn, 1) := by decide +kernel
theorem dX12_saysStory_0 : decode cX12_saysStory 0 = .ok (.aload_n 0, 1) := by decide +kernel
theorem dX12_saysStory_1 : decode cX12_saysStory 1 = .ok (.iload_n 1, 1) := by decide +kernel
theorem dX12_saysStory_2 : decode cX12_saysStory 2 = .ok (.invokevirtual 366, 3) := by decide +kernel
theorem dX12_saysStory_5 : decode cX12_saysStory 5 = .ok (.iconst 0, 1) := by decide +kernel
theorem dX12_saysStory_6 : decode cX12_saysStory 6 = .ok (.istore_n 2, 1) := by decide +kernel
theorem dX12_saysStory_7 : decode cX12_saysStory 7 = .ok (.iload_n 2, 1) := by decide +kernel
theorem dX12_saysStory_8 : decode cX12_saysStory 8 = .ok (.aload_n 0, 1) := by decide +kernel
theorem dX12_saysStory_9 : decode cX12_saysStory 9 = .ok (.getfield 30, 3) := by decide +kernel
theorem dX12_saysStory_12 : decode cX12_saysStory 12 = .ok (.bipush 8, 2) := by decide +kernel
theorem dX12_saysStory_14 : decode cX12_saysStory 14 = .ok (.iaload, 1) := by decide +kernel
theorem dX12_saysStory_15 : decode cX12_saysStory 15 = .ok (.if_icmp .ge 90, 3) := by decide +kernel
theorem dX12_saysStory_18 : decode cX12_saysStory 18 = .ok (.sipush 279, 3) := by decide +kernel
theorem dX12_saysStory_21 : decode cX12_saysStory 21 = .ok (.iconst 4, 1) := by decide +kernel
theorem dX12_saysStory_22 : decode cX12_saysStory 22 = .ok (.iload_n 2, 1) := by decide +kernel
theorem dX12_saysStory_23 : decode cX12_saysStory 23 = .ok (.imul, 1) := by decide +kernel
theorem dX12_saysStory_24 : decode cX12_saysStory 24 = .ok (.iadd, 1) := by decide +kernel
theorem dX12_saysStory_25 : decode cX12_saysStory 25 = .ok (.istore_n 3, 1) := by decide +kernel
theorem dX12_saysStory_26 : decode cX12_saysStory 26 = .ok (.aload_n 0, 1) := by decide +kernel
theorem dX12_saysStory_27 : decode cX12_saysStory 27 = .ok (.aload_n 0, 1) := by decide +kernel
theorem dX12_saysStory_28 : decode cX12_saysStory 28 = .ok (.getfield 30, 3) := by decide +kernel
theorem dX12_saysStory_31 : decode cX12_saysStory 31 = .ok (.iload_n 3, 1) := by decide +kernel
theorem dX12_saysStory_32 : decode cX12_saysStory 32 = .ok (.iaload, 1) := by decide +kernel
theorem dX12_saysStory_33 : decode cX12_saysStory 33 = .ok (.invokevirtual 363, 3) := by decide +kernel
theorem dX12_saysStory_36 : decode cX12_saysStory 36 = .ok (.aload_n 0, 1) := by decide +kernel
theorem dX12_saysStory_37 : decode cX12_saysStory 37 = .ok (.bipush 32, 2) := by decide +kernel
theorem dX12_saysStory_39 : decode cX12_saysStory 39 = .ok (.invokevirtual 348, 3) := by decide +kernel
theorem dX12_saysStory_42 : decode cX12_saysStory 42 = .ok (.aload_n 0, 1) := by decide +kernel
theorem dX12_saysStory_43 : decode cX12_saysStory 43 = .ok (.aload_n 0, 1) := by decide +kernel
theorem dX12_saysStory_44 : decode cX12_saysStory 44 = .ok (.getfield 30, 3) := by decide +kernel
theorem dX12_saysStory_47 : decode cX12_saysStory 47 = .ok (.iload_n 3, 1) := by decide +kernel
theorem dX12_saysStory_48 : decode cX12_saysStory 48 = .ok (.iconst 1, 1) := by decide +kernel
theorem dX12_saysStory_49 : decode cX12_saysStory 49 = .ok (.iadd, 1) := by decide +kernel
theorem dX12_saysStory_50 : decode cX12_saysStory 50 = .ok (.iaload, 1) := by decide +kernel
theorem dX12_saysStory_51 : decode cX12_saysStory 51 = .ok (.invokestatic 387, 3) := by decide +kernel
theorem dX12_saysStory_54 : decode cX12_saysStory 54 = .ok (.invokevirtual 351, 3) := by decide +kernel
theorem dX12_saysStory_57 : decode cX12_saysStory 57 = .ok (.aload_n 0, 1) := by decide +kernel
theorem dX12_saysStory_58 : decode cX12_saysStory 58 = .ok (.bipush 32, 2) := by decide +kernel
theorem dX12_saysStory_60 : decode cX12_saysStory 60 = .ok (.invokevirtual 348, 3) := by decide +kernel
theorem dX12_saysStory_63 : decode cX12_saysStory 63 = .ok (.aload_n 0, 1) := by decide +kernel
theorem dX12_saysStory_64 : decode cX12_saysStory 64 = .ok (.aload_n 0, 1) := by decide +kernel
theorem dX12_saysStory_65 : decode cX12_saysStory 65 = .ok (.getfield 30, 3) := by decide +kernel
theorem dX12_saysStory_68 : decode cX12_saysStory 68 = .ok (.iload_n 3, 1) := by decide +kernel
theorem dX12_saysStory_69 : decode cX12_saysStory 69 = .ok (.iconst 2, 1) := by decide +kernel
theorem dX12_saysStory_70 : decode cX12_saysStory 70 = .ok (.iadd, 1) := by decide +kernel
theorem dX12_saysStory_71 : decode cX12_saysStory 71 = .ok (.iaload, 1) := by decide +kernel
theorem dX12_saysStory_72 : decode cX12_saysStory 72 = .ok (.invokevirtual 363, 3) := by decide +kernel
theorem dX12_saysStory_75 : decode cX12_saysStory 75 = .ok (.aload_n 0, 1) := by decide +kernel
theorem dX12_saysStory_76 : decode cX12_saysStory 76 = .ok (.bipush 32, 2) := by decide +kernel
theorem dX12_saysStory_78 : decode cX12_saysStory 78 = .ok (.invokevirtual 348, 3) := by decide +kernel
theorem dX12_saysStory_81 : decode cX12_saysStory 81 = .ok (.aload_n 0, 1) := by decide +kernel
theorem dX12_saysStory_82 : decode cX12_saysStory 82 = .ok (.aload_n 0, 1) := by decide +kernel
theorem dX12_saysStory_83 : decode cX12_saysStory 83 = .ok (.getfield 30, 3) := by decide +kernel
theorem dX12_saysStory_86 : decode cX12_saysStory 86 = .ok (.iload_n 3, 1) := by decide +kernel
theorem dX12_saysStory_87 : decode cX12_saysStory 87 = .ok (.iconst 3, 1) := by decide +kernel
theorem dX12_saysStory_88 : decode cX12_saysStory 88 = .ok (.iadd, 1) := by decide +kernel
theorem dX12_saysStory_89 : decode cX12_saysStory 89 = .ok (.iaload, 1) := by decide +kernel
theorem dX12_saysStory_90 : decode cX12_saysStory 90 = .ok (.invokevirtual 363, 3) := by decide +kernel
theorem dX12_saysStory_93 : decode cX12_saysStory 93 = .ok (.aload_n 0, 1) := by decide +kernel
theorem dX12_saysStory_94 : decode cX12_saysStory 94 = .ok (.bipush 10, 2) := by decide +kernel
theorem dX12_saysStory_96 : decode cX12_saysStory 96 = .ok (.invokevirtual 348, 3) := by decide +kernel
theorem dX12_saysStory_99 : decode cX12_saysStory 99 = .ok (.iinc 2 1, 3) := by decide +kernel
theorem dX12_saysStory_102 : decode cX12_saysStory 102 = .ok (.goto (-95), 3) := by decide +kernel
theorem dX12_saysStory_105 : decode cX12_saysStory 105 = .ok (.return_, 1) := by decide +kernel
theorem dX12_storyLength_0 : decode cX12_storyLength 0 = .ok (.aload_n 0, 1) := by decide +kernel
theorem dX12_storyLength_1 : decode cX12_storyLength 1 = .ok (.iconst (-1), 1) := by decide +kernel
theorem dX12_storyLength_2 : decode cX12_storyLength 2 = .ok (.invokevirtual 391, 3) := by decide +kernel
theorem dX12_storyLength_5 : decode cX12_storyLength 5 = .ok (.aload_n 0, 1) := by decide +kernel
theorem dX12_storyLength_6 : decode cX12_storyLength 6 = .ok (.getfield 337, 3) := by decide +kernel
theorem dX12_storyLength_9 : decode cX12_storyLength 9 = .ok (.ireturn, 1) := by decide +kernel
theorem dX12_storyByte_0 : decode cX12_storyByte 0 = .ok (.iload_n 1, 1) := by decide +kernel
theorem dX12_storyByte_1 : decode cX12_storyByte 1 = .ok (.ifCond .ge 5, 3) := by decide +kernel
theorem dX12_storyByte_4 : decode cX12_storyByte 4 = .ok (.iconst (-1), 1) := by decide +kernel
theorem dX12_storyByte_5 : decode cX12_storyByte 5 = .ok (.ireturn, 1) := by decide +kernel
theorem dX12_storyByte_6 : decode cX12_storyByte 6 = .ok (.aload_n 0, 1) := by decide +kernel
theorem dX12_storyByte_7 : decode cX12_storyByte 7 = .ok (.iload_n 1, 1) := by decide +kernel
theorem dX12_storyByte_8 : decode cX12_storyByte 8 = .ok (.invokevirtual 391, 3) := by decide +kernel
theorem dX12_storyByte_11 : decode cX12_storyByte 11 = .ok (.aload_n 0, 1) := by decide +kernel
theorem dX12_storyByte_12 : decode cX12_storyByte 12 = .ok (.getfield 343, 3) := by decide +kernel
theorem dX12_storyByte_15 : decode cX12_storyByte 15 = .ok (.ireturn, 1) := by decide +kernel
theorem dX12_saysPair_0 : decode cX12_saysPair 0 = .ok (.aload_n 0, 1) := by decide +kernel
theorem dX12_saysPair_1 : decode cX12_saysPair 1 = .ok (.lload_n 1, 1) := by decide +kernel
theorem dX12_saysPair_2 : decode cX12_saysPair 2 = .ok (.invokevirtual 351, 3) := by decide +kernel
theorem dX12_saysPair_5 : decode cX12_saysPair 5 = .ok (.aload_n 0, 1) := by decide +kernel
theorem dX12_saysPair_6 : decode cX12_saysPair 6 = .ok (.bipush 32, 2) := by decide +kernel
theorem dX12_saysPair_8 : decode cX12_saysPair 8 = .ok (.invokevirtual 348, 3) := by decide +kernel
theorem dX12_saysPair_11 : decode cX12_saysPair 11 = .ok (.aload_n 0, 1) := by decide +kernel
theorem dX12_saysPair_12 : decode cX12_saysPair 12 = .ok (.iload_n 3, 1) := by decide +kernel
theorem dX12_saysPair_13 : decode cX12_saysPair 13 = .ok (.invokevirtual 363, 3) := by decide +kernel
theorem dX12_saysPair_16 : decode cX12_saysPair 16 = .ok (.aload_n 0, 1) := by decide +kernel
theorem dX12_saysPair_17 : decode cX12_saysPair 17 = .ok (.iload 4, 2) := by decide +kernel
theorem dX12_saysPair_19 : decode cX12_saysPair 19 = .ok (.invokevirtual 348, 3) := by decide +kernel
theorem dX12_saysPair_22 : decode cX12_saysPair 22 = .ok (.return_, 1) := by decide +kernel
theorem dX12_saysNumbers_0 : decode cX12_saysNumbers 0 = .ok (.aload_n 0, 1) := by decide +kernel
theorem dX12_saysNumbers_1 : decode cX12_saysNumbers 1 = .ok (.ldc2_w 159, 3) := by decide +kernel
theorem dX12_saysNumbers_4 : decode cX12_saysNumbers 4 = .ok (.aload_n 0, 1) := by decide +kernel
theorem dX12_saysNumbers_5 : decode cX12_saysNumbers 5 = .ok (.getfield 17, 3) := by decide +kernel
theorem dX12_saysNumbers_8 : decode cX12_saysNumbers 8 = .ok (.iconst 0, 1) := by decide +kernel
theorem dX12_saysNumbers_9 : decode cX12_saysNumbers 9 = .ok (.iaload, 1) := by decide +kernel
theorem dX12_saysNumbers_10 : decode cX12_saysNumbers 10 = .ok (.bipush 32, 2) := by decide +kernel
theorem dX12_saysNumbers_12 : decode cX12_saysNumbers 12 = .ok (.invokevirtual 394, 3) := by decide +kernel
theorem dX12_saysNumbers_15 : decode cX12_saysNumbers 15 = .ok (.aload_n 0, 1) := by decide +kernel
theorem dX12_saysNumbers_16 : decode cX12_saysNumbers 16 = .ok (.ldc2_w 161, 3) := by decide +kernel
theorem dX12_saysNumbers_19 : decode cX12_saysNumbers 19 = .ok (.invokevirtual 351, 3) := by decide +kernel
theorem dX12_saysNumbers_22 : decode cX12_saysNumbers 22 = .ok (.iconst 0, 1) := by decide +kernel
theorem dX12_saysNumbers_23 : decode cX12_saysNumbers 23 = .ok (.istore_n 1, 1) := by decide +kernel
theorem dX12_saysNumbers_24 : decode cX12_saysNumbers 24 = .ok (.iload_n 1, 1) := by decide +kernel
theorem dX12_saysNumbers_25 : decode cX12_saysNumbers 25 = .ok (.iconst 4, 1) := by decide +kernel
theorem dX12_saysNumbers_26 : decode cX12_saysNumbers 26 = .ok (.if_icmp .ge 27, 3) := by decide +kernel
theorem dX12_saysNumbers_29 : decode cX12_saysNumbers 29 = .ok (.aload_n 0, 1) := by decide +kernel
theorem dX12_saysNumbers_30 : decode cX12_saysNumbers 30 = .ok (.bipush 32, 2) := by decide +kernel
theorem dX12_saysNumbers_32 : decode cX12_saysNumbers 32 = .ok (.invokevirtual 348, 3) := by decide +kernel
theorem dX12_saysNumbers_35 : decode cX12_saysNumbers 35 = .ok (.aload_n 0, 1) := by decide +kernel
theorem dX12_saysNumbers_36 : decode cX12_saysNumbers 36 = .ok (.aload_n 0, 1) := by decide +kernel
theorem dX12_saysNumbers_37 : decode cX12_saysNumbers 37 = .ok (.getfield 17, 3) := by decide +kernel
theorem dX12_saysNumbers_40 : decode cX12_saysNumbers 40 = .ok (.iconst 1, 1) := by decide +kernel
theorem dX12_saysNumbers_41 : decode cX12_saysNumbers 41 = .ok (.iload_n 1, 1) := by decide +kernel
theorem dX12_saysNumbers_42 : decode cX12_saysNumbers 42 = .ok (.iadd, 1) := by decide +kernel
theorem dX12_saysNumbers_43 : decode cX12_saysNumbers 43 = .ok (.iaload, 1) := by decide +kernel
theorem dX12_saysNumbers_44 : decode cX12_saysNumbers 44 = .ok (.invokevirtual 363, 3) := by decide +kernel
theorem dX12_saysNumbers_47 : decode cX12_saysNumbers 47 = .ok (.iinc 1 1, 3) := by decide +kernel
theorem dX12_saysNumbers_50 : decode cX12_saysNumbers 50 = .ok (.goto (-26), 3) := by decide +kernel
theorem dX12_saysNumbers_53 : decode cX12_saysNumbers 53 = .ok (.aload_n 0, 1) := by decide +kernel
theorem dX12_saysNumbers_54 : decode cX12_saysNumbers 54 = .ok (.bipush 32, 2) := by decide +kernel
theorem dX12_saysNumbers_56 : decode cX12_saysNumbers 56 = .ok (.invokevirtual 348, 3) := by decide +kernel
theorem dX12_saysNumbers_59 : decode cX12_saysNumbers 59 = .ok (.aload_n 0, 1) := by decide +kernel
theorem dX12_saysNumbers_60 : decode cX12_saysNumbers 60 = .ok (.ldc2_w 163, 3) := by decide +kernel
theorem dX12_saysNumbers_63 : decode cX12_saysNumbers 63 = .ok (.aload_n 0, 1) := by decide +kernel
theorem dX12_saysNumbers_64 : decode cX12_saysNumbers 64 = .ok (.getfield 17, 3) := by decide +kernel
theorem dX12_saysNumbers_67 : decode cX12_saysNumbers 67 = .ok (.iconst 5, 1) := by decide +kernel
theorem dX12_saysNumbers_68 : decode cX12_saysNumbers 68 = .ok (.iaload, 1) := by decide +kernel
theorem dX12_saysNumbers_69 : decode cX12_saysNumbers 69 = .ok (.bipush 32, 2) := by decide +kernel
theorem dX12_saysNumbers_71 : decode cX12_saysNumbers 71 = .ok (.invokevirtual 394, 3) := by decide +kernel
theorem dX12_saysNumbers_74 : decode cX12_saysNumbers 74 = .ok (.aload_n 0, 1) := by decide +kernel
theorem dX12_saysNumbers_75 : decode cX12_saysNumbers 75 = .ok (.ldc2_w 165, 3) := by decide +kernel
theorem dX12_saysNumbers_78 : decode cX12_saysNumbers 78 = .ok (.aload_n 0, 1) := by decide +kernel
theorem dX12_saysNumbers_79 : decode cX12_saysNumbers 79 = .ok (.getfield 17, 3) := by decide +kernel
theorem dX12_saysNumbers_82 : decode cX12_saysNumbers 82 = .ok (.bipush 6, 2) := by decide +kernel
theorem dX12_saysNumbers_84 : decode cX12_saysNumbers 84 = .ok (.iaload, 1) := by decide +kernel
theorem dX12_saysNumbers_85 : decode cX12_saysNumbers 85 = .ok (.bipush 32, 2) := by decide +kernel
theorem dX12_saysNumbers_87 : decode cX12_saysNumbers 87 = .ok (.invokevirtual 394, 3) := by decide +kernel
theorem dX12_saysNumbers_90 : decode cX12_saysNumbers 90 = .ok (.aload_n 0, 1) := by decide +kernel
theorem dX12_saysNumbers_91 : decode cX12_saysNumbers 91 = .ok (.ldc2_w 167, 3) := by decide +kernel
theorem dX12_saysNumbers_94 : decode cX12_saysNumbers 94 = .ok (.aload_n 0, 1) := by decide +kernel
theorem dX12_saysNumbers_95 : decode cX12_saysNumbers 95 = .ok (.getfield 17, 3) := by decide +kernel
theorem dX12_saysNumbers_98 : decode cX12_saysNumbers 98 = .ok (.bipush 7, 2) := by decide +kernel
theorem dX12_saysNumbers_100 : decode cX12_saysNumbers 100 = .ok (.iaload, 1) := by decide +kernel
theorem dX12_saysNumbers_101 : decode cX12_saysNumbers 101 = .ok (.bipush 32, 2) := by decide +kernel
theorem dX12_saysNumbers_103 : decode cX12_saysNumbers 103 = .ok (.invokevirtual 394, 3) := by decide +kernel
theorem dX12_saysNumbers_106 : decode cX12_saysNumbers 106 = .ok (.aload_n 0, 1) := by decide +kernel
theorem dX12_saysNumbers_107 : decode cX12_saysNumbers 107 = .ok (.ldc2_w 169, 3) := by decide +kernel
theorem dX12_saysNumbers_110 : decode cX12_saysNumbers 110 = .ok (.aload_n 0, 1) := by decide +kernel
theorem dX12_saysNumbers_111 : decode cX12_saysNumbers 111 = .ok (.getfield 17, 3) := by decide +kernel
theorem dX12_saysNumbers_114 : decode cX12_saysNumbers 114 = .ok (.bipush 8, 2) := by decide +kernel
theorem dX12_saysNumbers_116 : decode cX12_saysNumbers 116 = .ok (.iaload, 1) := by decide +kernel
theorem dX12_saysNumbers_117 : decode cX12_saysNumbers 117 = .ok (.bipush 32, 2) := by decide +kernel
theorem dX12_saysNumbers_119 : decode cX12_saysNumbers 119 = .ok (.invokevirtual 394, 3) := by decide +kernel
theorem dX12_saysNumbers_122 : decode cX12_saysNumbers 122 = .ok (.aload_n 0, 1) := by decide +kernel
theorem dX12_saysNumbers_123 : decode cX12_saysNumbers 123 = .ok (.ldc2_w 171, 3) := by decide +kernel
theorem dX12_saysNumbers_126 : decode cX12_saysNumbers 126 = .ok (.aload_n 0, 1) := by decide +kernel
theorem dX12_saysNumbers_127 : decode cX12_saysNumbers 127 = .ok (.getfield 17, 3) := by decide +kernel
theorem dX12_saysNumbers_130 : decode cX12_saysNumbers 130 = .ok (.bipush 9, 2) := by decide +kernel
theorem dX12_saysNumbers_132 : decode cX12_saysNumbers 132 = .ok (.iaload, 1) := by decide +kernel
theorem dX12_saysNumbers_133 : decode cX12_saysNumbers 133 = .ok (.bipush 59, 2) := by decide +kernel
theorem dX12_saysNumbers_135 : decode cX12_saysNumbers 135 = .ok (.invokevirtual 394, 3) := by decide +kernel
theorem dX12_saysNumbers_138 : decode cX12_saysNumbers 138 = .ok (.return_, 1) := by decide +kernel
theorem dX12_saysSetup_0 : decode cX12_saysSetup 0 = .ok (.aload_n 0, 1) := by decide +kernel
theorem dX12_saysSetup_1 : decode cX12_saysSetup 1 = .ok (.iload_n 1, 1) := by decide +kernel
theorem dX12_saysSetup_2 : decode cX12_saysSetup 2 = .ok (.invokevirtual 366, 3) := by decide +kernel
theorem dX12_saysSetup_5 : decode cX12_saysSetup 5 = .ok (.aload_n 0, 1) := by decide +kernel
theorem dX12_saysSetup_6 : decode cX12_saysSetup 6 = .ok (.invokevirtual 398, 3) := by decide +kernel
theorem dX12_saysSetup_9 : decode cX12_saysSetup 9 = .ok (.iconst 0, 1) := by decide +kernel
theorem dX12_saysSetup_10 : decode cX12_saysSetup 10 = .ok (.istore_n 2, 1) := by decide +kernel
theorem dX12_saysSetup_11 : decode cX12_saysSetup 11 = .ok (.iload_n 2, 1) := by decide +kernel
theorem dX12_saysSetup_12 : decode cX12_saysSetup 12 = .ok (.aload_n 0, 1) := by decide +kernel
theorem dX12_saysSetup_13 : decode cX12_saysSetup 13 = .ok (.getfield 76, 3) := by decide +kernel
theorem dX12_saysSetup_16 : decode cX12_saysSetup 16 = .ok (.if_icmp .ge 39, 3) := by decide +kernel
theorem dX12_saysSetup_19 : decode cX12_saysSetup 19 = .ok (.aload_n 0, 1) := by decide +kernel
theorem dX12_saysSetup_20 : decode cX12_saysSetup 20 = .ok (.ldc2_w 173, 3) := by decide +kernel
theorem dX12_saysSetup_23 : decode cX12_saysSetup 23 = .ok (.invokevirtual 351, 3) := by decide +kernel
theorem dX12_saysSetup_26 : decode cX12_saysSetup 26 = .ok (.aload_n 0, 1) := by decide +kernel
theorem dX12_saysSetup_27 : decode cX12_saysSetup 27 = .ok (.bipush 32, 2) := by decide +kernel
theorem dX12_saysSetup_29 : decode cX12_saysSetup 29 = .ok (.invokevirtual 348, 3) := by decide +kernel
theorem dX12_saysSetup_32 : decode cX12_saysSetup 32 = .ok (.aload_n 0, 1) := by decide +kernel
theorem dX12_saysSetup_33 : decode cX12_saysSetup 33 = .ok (.aload_n 0, 1) := by decide +kernel
theorem dX12_saysSetup_34 : decode cX12_saysSetup 34 = .ok (.getfield 27, 3) := by decide +kernel
theorem dX12_saysSetup_37 : decode cX12_saysSetup 37 = .ok (.iload_n 2, 1) := by decide +kernel
theorem dX12_saysSetup_38 : decode cX12_saysSetup 38 = .ok (.iaload, 1) := by decide +kernel
theorem dX12_saysSetup_39 : decode cX12_saysSetup 39 = .ok (.i2l, 1) := by decide +kernel
theorem dX12_saysSetup_40 : decode cX12_saysSetup 40 = .ok (.invokevirtual 351, 3) := by decide +kernel
theorem dX12_saysSetup_43 : decode cX12_saysSetup 43 = .ok (.aload_n 0, 1) := by decide +kernel
theorem dX12_saysSetup_44 : decode cX12_saysSetup 44 = .ok (.bipush 59, 2) := by decide +kernel
theorem dX12_saysSetup_46 : decode cX12_saysSetup 46 = .ok (.invokevirtual 348, 3) := by decide +kernel
theorem dX12_saysSetup_49 : decode cX12_saysSetup 49 = .ok (.iinc 2 1, 3) := by decide +kernel
theorem dX12_saysSetup_52 : decode cX12_saysSetup 52 = .ok (.goto (-41), 3) := by decide +kernel
theorem dX12_saysSetup_55 : decode cX12_saysSetup 55 = .ok (.iconst 0, 1) := by decide +kernel
theorem dX12_saysSetup_56 : decode cX12_saysSetup 56 = .ok (.istore_n 2, 1) := by decide +kernel
theorem dX12_saysSetup_57 : decode cX12_saysSetup 57 = .ok (.iload_n 2, 1) := by decide +kernel
theorem dX12_saysSetup_58 : decode cX12_saysSetup 58 = .ok (.aload_n 0, 1) := by decide +kernel
theorem dX12_saysSetup_59 : decode cX12_saysSetup 59 = .ok (.getfield 55, 3) := by decide +kernel
theorem dX12_saysSetup_62 : decode cX12_saysSetup 62 = .ok (.if_icmp .ge 83, 3) := by decide +kernel
theorem dX12_saysSetup_65 : decode cX12_saysSetup 65 = .ok (.aload_n 0, 1) := by decide +kernel
theorem dX12_saysSetup_66 : decode cX12_saysSetup 66 = .ok (.ldc2_w 175, 3) := by decide +kernel
theorem dX12_saysSetup_69 : decode cX12_saysSetup 69 = .ok (.invokevirtual 351, 3) := by decide +kernel
theorem dX12_saysSetup_72 : decode cX12_saysSetup 72 = .ok (.aload_n 0, 1) := by decide +kernel
theorem dX12_saysSetup_73 : decode cX12_saysSetup 73 = .ok (.bipush 32, 2) := by decide +kernel
theorem dX12_saysSetup_75 : decode cX12_saysSetup 75 = .ok (.invokevirtual 348, 3) := by decide +kernel
theorem dX12_saysSetup_78 : decode cX12_saysSetup 78 = .ok (.aload_n 0, 1) := by decide +kernel
theorem dX12_saysSetup_79 : decode cX12_saysSetup 79 = .ok (.aload_n 0, 1) := by decide +kernel
theorem dX12_saysSetup_80 : decode cX12_saysSetup 80 = .ok (.getfield 21, 3) := by decide +kernel
theorem dX12_saysSetup_83 : decode cX12_saysSetup 83 = .ok (.iload_n 2, 1) := by decide +kernel
theorem dX12_saysSetup_84 : decode cX12_saysSetup 84 = .ok (.iaload, 1) := by decide +kernel
theorem dX12_saysSetup_85 : decode cX12_saysSetup 85 = .ok (.i2l, 1) := by decide +kernel
theorem dX12_saysSetup_86 : decode cX12_saysSetup 86 = .ok (.invokevirtual 351, 3) := by decide +kernel
theorem dX12_saysSetup_89 : decode cX12_saysSetup 89 = .ok (.aload_n 0, 1) := by decide +kernel
theorem dX12_saysSetup_90 : decode cX12_saysSetup 90 = .ok (.iload_n 2, 1) := by decide +kernel
theorem dX12_saysSetup_91 : decode cX12_saysSetup 91 = .ok (.iconst 0, 1) := by decide +kernel
theorem dX12_saysSetup_92 : decode cX12_saysSetup 92 = .ok (.invokevirtual 81, 3) := by decide +kernel
theorem dX12_saysSetup_95 : decode cX12_saysSetup 95 = .ok (.ifCond .lt 38, 3) := by decide +kernel
theorem dX12_saysSetup_98 : decode cX12_saysSetup 98 = .ok (.aload_n 0, 1) := by decide +kernel
theorem dX12_saysSetup_99 : decode cX12_saysSetup 99 = .ok (.bipush 32, 2) := by decide +kernel
theorem dX12_saysSetup_101 : decode cX12_saysSetup 101 = .ok (.invokevirtual 348, 3) := by decide +kernel
theorem dX12_saysSetup_104 : decode cX12_saysSetup 104 = .ok (.aload_n 0, 1) := by decide +kernel
theorem dX12_saysSetup_105 : decode cX12_saysSetup 105 = .ok (.ldc2_w 177, 3) := by decide +kernel
theorem dX12_saysSetup_108 : decode cX12_saysSetup 108 = .ok (.invokevirtual 351, 3) := by decide +kernel
theorem dX12_saysSetup_111 : decode cX12_saysSetup 111 = .ok (.aload_n 0, 1) := by decide +kernel
theorem dX12_saysSetup_112 : decode cX12_saysSetup 112 = .ok (.bipush 32, 2) := by decide +kernel
theorem dX12_saysSetup_114 : decode cX12_saysSetup 114 = .ok (.invokevirtual 348, 3) := by decide +kernel
theorem dX12_saysSetup_117 : decode cX12_saysSetup 117 = .ok (.aload_n 0, 1) := by decide +kernel
theorem dX12_saysSetup_118 : decode cX12_saysSetup 118 = .ok (.aload_n 0, 1) := by decide +kernel
theorem dX12_saysSetup_119 : decode cX12_saysSetup 119 = .ok (.getfield 27, 3) := by decide +kernel
theorem dX12_saysSetup_122 : decode cX12_saysSetup 122 = .ok (.aload_n 0, 1) := by decide +kernel
theorem dX12_saysSetup_123 : decode cX12_saysSetup 123 = .ok (.iload_n 2, 1) := by decide +kernel
theorem dX12_saysSetup_124 : decode cX12_saysSetup 124 = .ok (.iconst 0, 1) := by decide +kernel
theorem dX12_saysSetup_125 : decode cX12_saysSetup 125 = .ok (.invokevirtual 81, 3) := by decide +kernel
theorem dX12_saysSetup_128 : decode cX12_saysSetup 128 = .ok (.iaload, 1) := by decide +kernel
theorem dX12_saysSetup_129 : decode cX12_saysSetup 129 = .ok (.i2l, 1) := by decide +kernel
theorem dX12_saysSetup_130 : decode cX12_saysSetup 130 = .ok (.invokevirtual 351, 3) := by decide +kernel
theorem dX12_saysSetup_133 : decode cX12_saysSetup 133 = .ok (.aload_n 0, 1) := by decide +kernel
theorem dX12_saysSetup_134 : decode cX12_saysSetup 134 = .ok (.bipush 59, 2) := by decide +kernel
theorem dX12_saysSetup_136 : decode cX12_saysSetup 136 = .ok (.invokevirtual 348, 3) := by decide +kernel
theorem dX12_saysSetup_139 : decode cX12_saysSetup 139 = .ok (.iinc 2 1, 3) := by decide +kernel
theorem dX12_saysSetup_142 : decode cX12_saysSetup 142 = .ok (.goto (-85), 3) := by decide +kernel
theorem dX12_saysSetup_145 : decode cX12_saysSetup 145 = .ok (.return_, 1) := by decide +kernel
theorem dX12_setupLength_0 : decode cX12_setupLength 0 = .ok (.aload_n 0, 1) := by decide +kernel
theorem dX12_setupLength_1 : decode cX12_setupLength 1 = .ok (.iconst (-1), 1) := by decide +kernel
theorem dX12_setupLength_2 : decode cX12_setupLength 2 = .ok (.invokevirtual 401, 3) := by decide +kernel
theorem dX12_setupLength_5 : decode cX12_setupLength 5 = .ok (.aload_n 0, 1) := by decide +kernel
theorem dX12_setupLength_6 : decode cX12_setupLength 6 = .ok (.getfield 337, 3) := by decide +kernel
theorem dX12_setupLength_9 : decode cX12_setupLength 9 = .ok (.ireturn, 1) := by decide +kernel
theorem dX12_setupByte_0 : decode cX12_setupByte 0 = .ok (.iload_n 1, 1) := by decide +kernel
theorem dX12_setupByte_1 : decode cX12_setupByte 1 = .ok (.ifCond .ge 5, 3) := by decide +kernel
theorem dX12_setupByte_4 : decode cX12_setupByte 4 = .ok (.iconst (-1), 1) := by decide +kernel
theorem dX12_setupByte_5 : decode cX12_setupByte 5 = .ok (.ireturn, 1) := by decide +kernel
theorem dX12_setupByte_6 : decode cX12_setupByte 6 = .ok (.aload_n 0, 1) := by decide +kernel
theorem dX12_setupByte_7 : decode cX12_setupByte 7 = .ok (.iload_n 1, 1) := by decide +kernel
theorem dX12_setupByte_8 : decode cX12_setupByte 8 = .ok (.invokevirtual 401, 3) := by decide +kernel
theorem dX12_setupByte_11 : decode cX12_setupByte 11 = .ok (.aload_n 0, 1) := by decide +kernel
theorem dX12_setupByte_12 : decode cX12_setupByte 12 = .ok (.getfield 343, 3) := by decide +kernel
theorem dX12_setupByte_15 : decode cX12_setupByte 15 = .ok (.ireturn, 1) := by decide +kernel
theorem dX12_tapeLength_0 : decode cX12_tapeLength 0 = .ok (.aload_n 0, 1) := by decide +kernel
theorem dX12_tapeLength_1 : decode cX12_tapeLength 1 = .ok (.getfield 156, 3) := by decide +kernel
theorem dX12_tapeLength_4 : decode cX12_tapeLength 4 = .ok (.ireturn, 1) := by decide +kernel
theorem dJ6_bitCount_0f7a4_0 : decode cJ6_bitCount_0f7a4 0 = .ok (.iload_n 0, 1) := by decide +kernel
theorem dJ6_bitCount_0f7a4_1 : decode cJ6_bitCount_0f7a4 1 = .ok (.iload_n 0, 1) := by decide +kernel
theorem dJ6_bitCount_0f7a4_2 : decode cJ6_bitCount_0f7a4 2 = .ok (.iconst 1, 1) := by decide +kernel
theorem dJ6_bitCount_0f7a4_3 : decode cJ6_bitCount_0f7a4 3 = .ok (.iushr, 1) := by decide +kernel
theorem dJ6_bitCount_0f7a4_4 : decode cJ6_bitCount_0f7a4 4 = .ok (.ldc_w 265, 3) := by decide +kernel
theorem dJ6_bitCount_0f7a4_7 : decode cJ6_bitCount_0f7a4 7 = .ok (.iand, 1) := by decide +kernel
theorem dJ6_bitCount_0f7a4_8 : decode cJ6_bitCount_0f7a4 8 = .ok (.isub, 1) := by decide +kernel
theorem dJ6_bitCount_0f7a4_9 : decode cJ6_bitCount_0f7a4 9 = .ok (.istore_n 0, 1) := by decide +kernel
theorem dJ6_bitCount_0f7a4_10 : decode cJ6_bitCount_0f7a4 10 = .ok (.iload_n 0, 1) := by decide +kernel
theorem dJ6_bitCount_0f7a4_11 : decode cJ6_bitCount_0f7a4 11 = .ok (.ldc_w 266, 3) := by decide +kernel
theorem dJ6_bitCount_0f7a4_14 : decode cJ6_bitCount_0f7a4 14 = .ok (.iand, 1) := by decide +kernel
theorem dJ6_bitCount_0f7a4_15 : decode cJ6_bitCount_0f7a4 15 = .ok (.iload_n 0, 1) := by decide +kernel
theorem dJ6_bitCount_0f7a4_16 : decode cJ6_bitCount_0f7a4 16 = .ok (.iconst 2, 1) := by decide +kernel
theorem dJ6_bitCount_0f7a4_17 : decode cJ6_bitCount_0f7a4 17 = .ok (.iushr, 1) := by decide +kernel
theorem dJ6_bitCount_0f7a4_18 : decode cJ6_bitCount_0f7a4 18 = .ok (.ldc_w 266, 3) := by decide +kernel
theorem dJ6_bitCount_0f7a4_21 : decode cJ6_bitCount_0f7a4 21 = .ok (.iand, 1) := by decide +kernel
theorem dJ6_bitCount_0f7a4_22 : decode cJ6_bitCount_0f7a4 22 = .ok (.iadd, 1) := by decide +kernel
theorem dJ6_bitCount_0f7a4_23 : decode cJ6_bitCount_0f7a4 23 = .ok (.istore_n 0, 1) := by decide +kernel
theorem dJ6_bitCount_0f7a4_24 : decode cJ6_bitCount_0f7a4 24 = .ok (.iload_n 0, 1) := by decide +kernel
theorem dJ6_bitCount_0f7a4_25 : decode cJ6_bitCount_0f7a4 25 = .ok (.iload_n 0, 1) := by decide +kernel
theorem dJ6_bitCount_0f7a4_26 : decode cJ6_bitCount_0f7a4 26 = .ok (.iconst 4, 1) := by decide +kernel
theorem dJ6_bitCount_0f7a4_27 : decode cJ6_bitCount_0f7a4 27 = .ok (.iushr, 1) := by decide +kernel
theorem dJ6_bitCount_0f7a4_28 : decode cJ6_bitCount_0f7a4 28 = .ok (.iadd, 1) := by decide +kernel
theorem dJ6_bitCount_0f7a4_29 : decode cJ6_bitCount_0f7a4 29 = .ok (.ldc_w 267, 3) := by decide +kernel
theorem dJ6_bitCount_0f7a4_32 : decode cJ6_bitCount_0f7a4 32 = .ok (.iand, 1) := by decide +kernel
theorem dJ6_bitCount_0f7a4_33 : decode cJ6_bitCount_0f7a4 33 = .ok (.istore_n 0, 1) := by decide +kernel
theorem dJ6_bitCount_0f7a4_34 : decode cJ6_bitCount_0f7a4 34 = .ok (.iload_n 0, 1) := by decide +kernel
theorem dJ6_bitCount_0f7a4_35 : decode cJ6_bitCount_0f7a4 35 = .ok (.iload_n 0, 1) := by decide +kernel
theorem dJ6_bitCount_0f7a4_36 : decode cJ6_bitCount_0f7a4 36 = .ok (.bipush 8, 2) := by decide +kernel
theorem dJ6_bitCount_0f7a4_38 : decode cJ6_bitCount_0f7a4 38 = .ok (.iushr, 1) := by decide +kernel
theorem dJ6_bitCount_0f7a4_39 : decode cJ6_bitCount_0f7a4 39 = .ok (.iadd, 1) := by decide +kernel
theorem dJ6_bitCount_0f7a4_40 : decode cJ6_bitCount_0f7a4 40 = .ok (.istore_n 0, 1) := by decide +kernel
theorem dJ6_bitCount_0f7a4_41 : decode cJ6_bitCount_0f7a4 41 = .ok (.iload_n 0, 1) := by decide +kernel
theorem dJ6_bitCount_0f7a4_42 : decode cJ6_bitCount_0f7a4 42 = .ok (.iload_n 0, 1) := by decide +kernel
theorem dJ6_bitCount_0f7a4_43 : decode cJ6_bitCount_0f7a4 43 = .ok (.bipush 16, 2) := by decide +kernel
theorem dJ6_bitCount_0f7a4_45 : decode cJ6_bitCount_0f7a4 45 = .ok (.iushr, 1) := by decide +kernel
theorem dJ6_bitCount_0f7a4_46 : decode cJ6_bitCount_0f7a4 46 = .ok (.iadd, 1) := by decide +kernel
theorem dJ6_bitCount_0f7a4_47 : decode cJ6_bitCount_0f7a4 47 = .ok (.istore_n 0, 1) := by decide +kernel
theorem dJ6_bitCount_0f7a4_48 : decode cJ6_bitCount_0f7a4 48 = .ok (.iload_n 0, 1) := by decide +kernel
theorem dJ6_bitCount_0f7a4_49 : decode cJ6_bitCount_0f7a4 49 = .ok (.bipush 63, 2) := by decide +kernel
theorem dJ6_bitCount_0f7a4_51 : decode cJ6_bitCount_0f7a4 51 = .ok (.iand, 1) := by decide +kernel
theorem dJ6_bitCount_0f7a4_52 : decode cJ6_bitCount_0f7a4 52 = .ok (.ireturn, 1) := by decide +kernel
theorem dJ9_floorMod_7cf53_0 : decode cJ9_floorMod_7cf53 0 = .ok (.iload_n 0, 1) := by decide +kernel
theorem dJ9_floorMod_7cf53_1 : decode cJ9_floorMod_7cf53 1 = .ok (.iload_n 1, 1) := by decide +kernel
theorem dJ9_floorMod_7cf53_2 : decode cJ9_floorMod_7cf53 2 = .ok (.irem, 1) := by decide +kernel
theorem dJ9_floorMod_7cf53_3 : decode cJ9_floorMod_7cf53 3 = .ok (.istore_n 2, 1) := by decide +kernel
theorem dJ9_floorMod_7cf53_4 : decode cJ9_floorMod_7cf53 4 = .ok (.iload_n 0, 1) := by decide +kernel
theorem dJ9_floorMod_7cf53_5 : decode cJ9_floorMod_7cf53 5 = .ok (.iload_n 1, 1) := by decide +kernel
theorem dJ9_floorMod_7cf53_6 : decode cJ9_floorMod_7cf53 6 = .ok (.ixor, 1) := by decide +kernel
theorem dJ9_floorMod_7cf53_7 : decode cJ9_floorMod_7cf53 7 = .ok (.ifCond .ge 11, 3) := by decide +kernel
theorem dJ9_floorMod_7cf53_10 : decode cJ9_floorMod_7cf53 10 = .ok (.iload_n 2, 1) := by decide +kernel
theorem dJ9_floorMod_7cf53_11 : decode cJ9_floorMod_7cf53 11 = .ok (.ifCond .eq 7, 3) := by decide +kernel
theorem dJ9_floorMod_7cf53_14 : decode cJ9_floorMod_7cf53 14 = .ok (.iload_n 2, 1) := by decide +kernel
theorem dJ9_floorMod_7cf53_15 : decode cJ9_floorMod_7cf53 15 = .ok (.iload_n 1, 1) := by decide +kernel
theorem dJ9_floorMod_7cf53_16 : decode cJ9_floorMod_7cf53 16 = .ok (.iadd, 1) := by decide +kernel
theorem dJ9_floorMod_7cf53_17 : decode cJ9_floorMod_7cf53 17 = .ok (.ireturn, 1) := by decide +kernel
theorem dJ9_floorMod_7cf53_18 : decode cJ9_floorMod_7cf53 18 = .ok (.iload_n 2, 1) := by decide +kernel
theorem dJ9_floorMod_7cf53_19 : decode cJ9_floorMod_7cf53 19 = .ok (.ireturn, 1) := by decide +kernel
theorem dJ9_max_7cf53_0 : decode cJ9_max_7cf53 0 = .ok (.iload_n 0, 1) := by decide +kernel
theorem dJ9_max_7cf53_1 : decode cJ9_max_7cf53 1 = .ok (.iload_n 1, 1) := by decide +kernel
theorem dJ9_max_7cf53_2 : decode cJ9_max_7cf53 2 = .ok (.if_icmp .lt 7, 3) := by decide +kernel
theorem dJ9_max_7cf53_5 : decode cJ9_max_7cf53 5 = .ok (.iload_n 0, 1) := by decide +kernel
theorem dJ9_max_7cf53_6 : decode cJ9_max_7cf53 6 = .ok (.goto 4, 3) := by decide +kernel
theorem dJ9_max_7cf53_9 : decode cJ9_max_7cf53 9 = .ok (.iload_n 1, 1) := by decide +kernel
theorem dJ9_max_7cf53_10 : decode cJ9_max_7cf53 10 = .ok (.ireturn, 1) := by decide +kernel
theorem dJ9_min_7cf53_0 : decode cJ9_min_7cf53 0 = .ok (.iload_n 0, 1) := by decide +kernel
theorem dJ9_min_7cf53_1 : decode cJ9_min_7cf53 1 = .ok (.iload_n 1, 1) := by decide +kernel
theorem dJ9_min_7cf53_2 : decode cJ9_min_7cf53 2 = .ok (.if_icmp .gt 7, 3) := by decide +kernel
theorem dJ9_min_7cf53_5 : decode cJ9_min_7cf53 5 = .ok (.iload_n 0, 1) := by decide +kernel
theorem dJ9_min_7cf53_6 : decode cJ9_min_7cf53 6 = .ok (.goto 4, 3) := by decide +kernel
theorem dJ9_min_7cf53_9 : decode cJ9_min_7cf53 9 = .ok (.iload_n 1, 1) := by decide +kernel
theorem dJ9_min_7cf53_10 : decode cJ9_min_7cf53 10 = .ok (.ireturn, 1) := by decide +kernel
theorem dJ0_length_8abf5_0 : decode cJ0_length_8abf5 0 = .ok (.aload_n 0, 1) := by decide +kernel
theorem dJ0_length_8abf5_1 : decode cJ0_length_8abf5 1 = .ok (.getfield 9, 3) := by decide +kernel
theorem dJ0_length_8abf5_4 : decode cJ0_length_8abf5 4 = .ok (.arraylength, 1) := by decide +kernel
theorem dJ0_length_8abf5_5 : decode cJ0_length_8abf5 5 = .ok (.aload_n 0, 1) := by decide +kernel
theorem dJ0_length_8abf5_6 : decode cJ0_length_8abf5 6 = .ok (.invokevirtual 335, 3) := by decide +kernel
theorem dJ0_length_8abf5_9 : decode cJ0_length_8abf5 9 = .ok (.ishr, 1) := by decide +kernel
theorem dJ0_length_8abf5_10 : decode cJ0_length_8abf5 10 = .ok (.ireturn, 1) := by decide +kernel
theorem dJ0_charAt_5068e_0 : decode cJ0_charAt_5068e 0 = .ok (.aload_n 0, 1) := by decide +kernel
theorem dJ0_charAt_5068e_1 : decode cJ0_charAt_5068e 1 = .ok (.invokevirtual 492, 3) := by decide +kernel
theorem dJ0_charAt_5068e_4 : decode cJ0_charAt_5068e 4 = .ok (.ifCond .eq 12, 3) := by decide +kernel
theorem dJ0_charAt_5068e_7 : decode cJ0_charAt_5068e 7 = .ok (.aload_n 0, 1) := by decide +kernel
theorem dJ0_charAt_5068e_8 : decode cJ0_charAt_5068e 8 = .ok (.getfield 9, 3) := by decide +kernel
theorem dJ0_charAt_5068e_11 : decode cJ0_charAt_5068e 11 = .ok (.iload_n 1, 1) := by decide +kernel
theorem dJ0_charAt_5068e_12 : decode cJ0_charAt_5068e 12 = .ok (.invokestatic 495, 3) := by decide +kernel
theorem dJ0_charAt_5068e_15 : decode cJ0_charAt_5068e 15 = .ok (.ireturn, 1) := by decide +kernel
theorem dJ0_charAt_5068e_16 : decode cJ0_charAt_5068e 16 = .ok (.aload_n 0, 1) := by decide +kernel
theorem dJ0_charAt_5068e_17 : decode cJ0_charAt_5068e 17 = .ok (.getfield 9, 3) := by decide +kernel
theorem dJ0_charAt_5068e_20 : decode cJ0_charAt_5068e 20 = .ok (.iload_n 1, 1) := by decide +kernel
theorem dJ0_charAt_5068e_21 : decode cJ0_charAt_5068e 21 = .ok (.invokestatic 498, 3) := by decide +kernel
theorem dJ0_charAt_5068e_24 : decode cJ0_charAt_5068e 24 = .ok (.ireturn, 1) := by decide +kernel
theorem dJ0_coder_7d493_0 : decode cJ0_coder_7d493 0 = .ok (.getstatic 38, 3) := by decide +kernel
theorem dJ0_coder_7d493_3 : decode cJ0_coder_7d493 3 = .ok (.ifCond .eq 10, 3) := by decide +kernel
theorem dJ0_coder_7d493_6 : decode cJ0_coder_7d493 6 = .ok (.aload_n 0, 1) := by decide +kernel
theorem dJ0_coder_7d493_7 : decode cJ0_coder_7d493 7 = .ok (.getfield 15, 3) := by decide +kernel
theorem dJ0_coder_7d493_10 : decode cJ0_coder_7d493 10 = .ok (.goto 4, 3) := by decide +kernel
theorem dJ0_coder_7d493_13 : decode cJ0_coder_7d493 13 = .ok (.iconst 1, 1) := by decide +kernel
theorem dJ0_coder_7d493_14 : decode cJ0_coder_7d493 14 = .ok (.ireturn, 1) := by decide +kernel
theorem dJ0_isLatin1_aae02_0 : decode cJ0_isLatin1_aae02 0 = .ok (.getstatic 38, 3) := by decide +kernel
theorem dJ0_isLatin1_aae02_3 : decode cJ0_isLatin1_aae02 3 = .ok (.ifCond .eq 14, 3) := by decide +kernel
theorem dJ0_isLatin1_aae02_6 : decode cJ0_isLatin1_aae02 6 = .ok (.aload_n 0, 1) := by decide +kernel
theorem dJ0_isLatin1_aae02_7 : decode cJ0_isLatin1_aae02 7 = .ok (.getfield 15, 3) := by decide +kernel
theorem dJ0_isLatin1_aae02_10 : decode cJ0_isLatin1_aae02 10 = .ok (.ifCond .ne 7, 3) := by decide +kernel
theorem dJ0_isLatin1_aae02_13 : decode cJ0_isLatin1_aae02 13 = .ok (.iconst 1, 1) := by decide +kernel
theorem dJ0_isLatin1_aae02_14 : decode cJ0_isLatin1_aae02 14 = .ok (.goto 4, 3) := by decide +kernel
theorem dJ0_isLatin1_aae02_17 : decode cJ0_isLatin1_aae02 17 = .ok (.iconst 0, 1) := by decide +kernel
theorem dJ0_isLatin1_aae02_18 : decode cJ0_isLatin1_aae02 18 = .ok (.ireturn, 1) := by decide +kernel
theorem dJ0_checkIndex_df160_0 : decode cJ0_checkIndex_df160 0 = .ok (.iload_n 0, 1) := by decide +kernel
theorem dJ0_checkIndex_df160_1 : decode cJ0_checkIndex_df160 1 = .ok (.iload_n 1, 1) := by decide +kernel
theorem dJ0_checkIndex_df160_2 : decode cJ0_checkIndex_df160 2 = .ok (.getstatic 1053, 3) := by decide +kernel
theorem dJ0_checkIndex_df160_5 : decode cJ0_checkIndex_df160 5 = .ok (.invokestatic 1059, 3) := by decide +kernel
theorem dJ0_checkIndex_df160_8 : decode cJ0_checkIndex_df160 8 = .ok (.pop, 1) := by decide +kernel
theorem dJ0_checkIndex_df160_9 : decode cJ0_checkIndex_df160 9 = .ok (.return_, 1) := by decide +kernel
theorem dJ1_charAt_3b067_0 : decode cJ1_charAt_3b067 0 = .ok (.iload_n 1, 1) := by decide +kernel
theorem dJ1_charAt_3b067_1 : decode cJ1_charAt_3b067 1 = .ok (.aload_n 0, 1) := by decide +kernel
theorem dJ1_charAt_3b067_2 : decode cJ1_charAt_3b067 2 = .ok (.arraylength, 1) := by decide +kernel
theorem dJ1_charAt_3b067_3 : decode cJ1_charAt_3b067 3 = .ok (.invokestatic 9, 3) := by decide +kernel
theorem dJ1_charAt_3b067_6 : decode cJ1_charAt_3b067 6 = .ok (.aload_n 0, 1) := by decide +kernel
theorem dJ1_charAt_3b067_7 : decode cJ1_charAt_3b067 7 = .ok (.iload_n 1, 1) := by decide +kernel
theorem dJ1_charAt_3b067_8 : decode cJ1_charAt_3b067 8 = .ok (.baload, 1) := by decide +kernel
theorem dJ1_charAt_3b067_9 : decode cJ1_charAt_3b067 9 = .ok (.sipush 255, 3) := by decide +kernel
theorem dJ1_charAt_3b067_12 : decode cJ1_charAt_3b067 12 = .ok (.iand, 1) := by decide +kernel
theorem dJ1_charAt_3b067_13 : decode cJ1_charAt_3b067 13 = .ok (.i2c, 1) := by decide +kernel
theorem dJ1_charAt_3b067_14 : decode cJ1_charAt_3b067 14 = .ok (.ireturn, 1) := by decide +kernel
theorem dJ2_getChar_3b067_0 : decode cJ2_getChar_3b067 0 = .ok (.getstatic 44, 3) := by decide +kernel
theorem dJ2_getChar_3b067_3 : decode cJ2_getChar_3b067 3 = .ok (.ifCond .ne 25, 3) := by decide +kernel
theorem dJ2_getChar_3b067_6 : decode cJ2_getChar_3b067 6 = .ok (.iload_n 1, 1) := by decide +kernel
theorem dJ2_getChar_3b067_7 : decode cJ2_getChar_3b067 7 = .ok (.ifCond .lt 11, 3) := by decide +kernel
theorem dJ2_getChar_3b067_10 : decode cJ2_getChar_3b067 10 = .ok (.iload_n 1, 1) := by decide +kernel
theorem dJ2_getChar_3b067_11 : decode cJ2_getChar_3b067 11 = .ok (.aload_n 0, 1) := by decide +kernel
theorem dJ2_getChar_3b067_12 : decode cJ2_getChar_3b067 12 = .ok (.invokestatic 48, 3) := by decide +kernel
theorem dJ2_getChar_3b067_15 : decode cJ2_getChar_3b067 15 = .ok (.if_icmp .lt 13, 3) := by decide +kernel
theorem dJ2_getChar_3b067_18 : decode cJ2_getChar_3b067 18 = .ok (.new 52, 3) := by decide +kernel
theorem dJ2_getChar_3b067_21 : decode cJ2_getChar_3b067 21 = .ok (.dup, 1) := by decide +kernel
theorem dJ2_getChar_3b067_22 : decode cJ2_getChar_3b067 22 = .ok (.ldc 54, 2) := by decide +kernel
theorem dJ2_getChar_3b067_24 : decode cJ2_getChar_3b067 24 = .ok (.invokespecial 56, 3) := by decide +kernel
theorem dJ2_getChar_3b067_27 : decode cJ2_getChar_3b067 27 = .ok (.athrow, 1) := by decide +kernel
theorem dJ2_getChar_3b067_28 : decode cJ2_getChar_3b067 28 = .ok (.iload_n 1, 1) := by decide +kernel
theorem dJ2_getChar_3b067_29 : decode cJ2_getChar_3b067 29 = .ok (.iconst 1, 1) := by decide +kernel
theorem dJ2_getChar_3b067_30 : decode cJ2_getChar_3b067 30 = .ok (.ishl, 1) := by decide +kernel
theorem dJ2_getChar_3b067_31 : decode cJ2_getChar_3b067 31 = .ok (.istore_n 1, 1) := by decide +kernel
theorem dJ2_getChar_3b067_32 : decode cJ2_getChar_3b067 32 = .ok (.aload_n 0, 1) := by decide +kernel
theorem dJ2_getChar_3b067_33 : decode cJ2_getChar_3b067 33 = .ok (.iload_n 1, 1) := by decide +kernel
theorem dJ2_getChar_3b067_34 : decode cJ2_getChar_3b067 34 = .ok (.iinc 1 1, 3) := by decide +kernel
theorem dJ2_getChar_3b067_37 : decode cJ2_getChar_3b067 37 = .ok (.baload, 1) := by decide +kernel
theorem dJ2_getChar_3b067_38 : decode cJ2_getChar_3b067 38 = .ok (.sipush 255, 3) := by decide +kernel
theorem dJ2_getChar_3b067_41 : decode cJ2_getChar_3b067 41 = .ok (.iand, 1) := by decide +kernel
theorem dJ2_getChar_3b067_42 : decode cJ2_getChar_3b067 42 = .ok (.getstatic 59, 3) := by decide +kernel
theorem dJ2_getChar_3b067_45 : decode cJ2_getChar_3b067 45 = .ok (.ishl, 1) := by decide +kernel
theorem dJ2_getChar_3b067_46 : decode cJ2_getChar_3b067 46 = .ok (.aload_n 0, 1) := by decide +kernel
theorem dJ2_getChar_3b067_47 : decode cJ2_getChar_3b067 47 = .ok (.iload_n 1, 1) := by decide +kernel
theorem dJ2_getChar_3b067_48 : decode cJ2_getChar_3b067 48 = .ok (.baload, 1) := by decide +kernel
theorem dJ2_getChar_3b067_49 : decode cJ2_getChar_3b067 49 = .ok (.sipush 255, 3) := by decide +kernel
theorem dJ2_getChar_3b067_52 : decode cJ2_getChar_3b067 52 = .ok (.iand, 1) := by decide +kernel
theorem dJ2_getChar_3b067_53 : decode cJ2_getChar_3b067 53 = .ok (.getstatic 63, 3) := by decide +kernel
theorem dJ2_getChar_3b067_56 : decode cJ2_getChar_3b067 56 = .ok (.ishl, 1) := by decide +kernel
theorem dJ2_getChar_3b067_57 : decode cJ2_getChar_3b067 57 = .ok (.ior, 1) := by decide +kernel
theorem dJ2_getChar_3b067_58 : decode cJ2_getChar_3b067 58 = .ok (.i2c, 1) := by decide +kernel
theorem dJ2_getChar_3b067_59 : decode cJ2_getChar_3b067 59 = .ok (.ireturn, 1) := by decide +kernel
theorem dJ2_length_9d52b_0 : decode cJ2_length_9d52b 0 = .ok (.aload_n 0, 1) := by decide +kernel
theorem dJ2_length_9d52b_1 : decode cJ2_length_9d52b 1 = .ok (.arraylength, 1) := by decide +kernel
theorem dJ2_length_9d52b_2 : decode cJ2_length_9d52b 2 = .ok (.iconst 1, 1) := by decide +kernel
theorem dJ2_length_9d52b_3 : decode cJ2_length_9d52b 3 = .ok (.ishr, 1) := by decide +kernel
theorem dJ2_length_9d52b_4 : decode cJ2_length_9d52b 4 = .ok (.ireturn, 1) := by decide +kernel
theorem dJ2_charAt_3b067_0 : decode cJ2_charAt_3b067 0 = .ok (.iload_n 1, 1) := by decide +kernel
theorem dJ2_charAt_3b067_1 : decode cJ2_charAt_3b067 1 = .ok (.aload_n 0, 1) := by decide +kernel
theorem dJ2_charAt_3b067_2 : decode cJ2_charAt_3b067 2 = .ok (.invokestatic 67, 3) := by decide +kernel
theorem dJ2_charAt_3b067_5 : decode cJ2_charAt_3b067 5 = .ok (.aload_n 0, 1) := by decide +kernel
theorem dJ2_charAt_3b067_6 : decode cJ2_charAt_3b067 6 = .ok (.iload_n 1, 1) := by decide +kernel
theorem dJ2_charAt_3b067_7 : decode cJ2_charAt_3b067 7 = .ok (.invokestatic 71, 3) := by decide +kernel
theorem dJ2_charAt_3b067_10 : decode cJ2_charAt_3b067 10 = .ok (.ireturn, 1) := by decide +kernel
theorem dJ2_checkIndex_2214a_0 : decode cJ2_checkIndex_2214a 0 = .ok (.iload_n 0, 1) := by decide +kernel
theorem dJ2_checkIndex_2214a_1 : decode cJ2_checkIndex_2214a 1 = .ok (.aload_n 1, 1) := by decide +kernel
theorem dJ2_checkIndex_2214a_2 : decode cJ2_checkIndex_2214a 2 = .ok (.invokestatic 48, 3) := by decide +kernel
theorem dJ2_checkIndex_2214a_5 : decode cJ2_checkIndex_2214a 5 = .ok (.invokestatic 414, 3) := by decide +kernel
theorem dJ2_checkIndex_2214a_8 : decode cJ2_checkIndex_2214a 8 = .ok (.return_, 1) := by decide +kernel
theorem dJ3_checkIndex_8e157_0 : decode cJ3_checkIndex_8e157 0 = .ok (.iload_n 0, 1) := by decide +kernel
theorem dJ3_checkIndex_8e157_1 : decode cJ3_checkIndex_8e157 1 = .ok (.ifCond .lt 8, 3) := by decide +kernel
theorem dJ3_checkIndex_8e157_4 : decode cJ3_checkIndex_8e157 4 = .ok (.iload_n 0, 1) := by decide +kernel
theorem dJ3_checkIndex_8e157_5 : decode cJ3_checkIndex_8e157 5 = .ok (.iload_n 1, 1) := by decide +kernel
theorem dJ3_checkIndex_8e157_6 : decode cJ3_checkIndex_8e157 6 = .ok (.if_icmp .lt 10, 3) := by decide +kernel
theorem dJ3_checkIndex_8e157_9 : decode cJ3_checkIndex_8e157 9 = .ok (.aload_n 2, 1) := by decide +kernel
theorem dJ3_checkIndex_8e157_10 : decode cJ3_checkIndex_8e157 10 = .ok (.iload_n 0, 1) := by decide +kernel
theorem dJ3_checkIndex_8e157_11 : decode cJ3_checkIndex_8e157 11 = .ok (.iload_n 1, 1) := by decide +kernel
theorem dJ3_checkIndex_8e157_12 : decode cJ3_checkIndex_8e157 12 = .ok (.invokestatic 95, 3) := by decide +kernel
theorem dJ3_checkIndex_8e157_15 : decode cJ3_checkIndex_8e157 15 = .ok (.athrow, 1) := by decide +kernel
theorem dJ3_checkIndex_8e157_16 : decode cJ3_checkIndex_8e157 16 = .ok (.iload_n 0, 1) := by decide +kernel
theorem dJ3_checkIndex_8e157_17 : decode cJ3_checkIndex_8e157 17 = .ok (.ireturn, 1) := by decide +kernel
