theorem d_G_init_0 : decode prog_2_method_1_code 0 = .ok (.aload_n 0, 1) := by decide +kernel
theorem d_G_init_1 : decode prog_2_method_1_code 1 = .ok (.invokespecial 3, 3) := by decide +kernel
theorem d_G_init_4 : decode prog_2_method_1_code 4 = .ok (.aload_n 0, 1) := by decide +kernel
theorem d_G_init_5 : decode prog_2_method_1_code 5 = .ok (.new 9, 3) := by decide +kernel
theorem d_G_init_8 : decode prog_2_method_1_code 8 = .ok (.dup, 1) := by decide +kernel
theorem d_G_init_9 : decode prog_2_method_1_code 9 = .ok (.bipush 72, 2) := by decide +kernel
theorem d_G_init_11 : decode prog_2_method_1_code 11 = .ok (.invokespecial 11, 3) := by decide +kernel
theorem d_G_init_14 : decode prog_2_method_1_code 14 = .ok (.putfield 14, 3) := by decide +kernel
theorem d_G_init_17 : decode prog_2_method_1_code 17 = .ok (.aload_n 0, 1) := by decide +kernel
theorem d_G_init_18 : decode prog_2_method_1_code 18 = .ok (.iconst 1, 1) := by decide +kernel
theorem d_G_init_19 : decode prog_2_method_1_code 19 = .ok (.putfield 20, 3) := by decide +kernel
theorem d_G_init_22 : decode prog_2_method_1_code 22 = .ok (.return_, 1) := by decide +kernel
theorem d_N_init_0 : decode prog_3_method_1_code 0 = .ok (.aload_n 0, 1) := by decide +kernel
theorem d_N_init_1 : decode prog_3_method_1_code 1 = .ok (.invokespecial 3, 3) := by decide +kernel
theorem d_N_init_4 : decode prog_3_method_1_code 4 = .ok (.aload_n 0, 1) := by decide +kernel
theorem d_N_init_5 : decode prog_3_method_1_code 5 = .ok (.new 9, 3) := by decide +kernel
theorem d_N_init_8 : decode prog_3_method_1_code 8 = .ok (.dup, 1) := by decide +kernel
theorem d_N_init_9 : decode prog_3_method_1_code 9 = .ok (.bipush 72, 2) := by decide +kernel
theorem d_N_init_11 : decode prog_3_method_1_code 11 = .ok (.invokespecial 11, 3) := by decide +kernel
theorem d_N_init_14 : decode prog_3_method_1_code 14 = .ok (.putfield 14, 3) := by decide +kernel
theorem d_N_init_17 : decode prog_3_method_1_code 17 = .ok (.aload_n 0, 1) := by decide +kernel
theorem d_N_init_18 : decode prog_3_method_1_code 18 = .ok (.iconst 0, 1) := by decide +kernel
theorem d_N_init_19 : decode prog_3_method_1_code 19 = .ok (.putfield 20, 3) := by decide +kernel
theorem d_N_init_22 : decode prog_3_method_1_code 22 = .ok (.return_, 1) := by decide +kernel
theorem d_P_init_0 : decode prog_4_method_1_code 0 = .ok (.aload_n 0, 1) := by decide +kernel
theorem d_P_init_1 : decode prog_4_method_1_code 1 = .ok (.invokespecial 3, 3) := by decide +kernel
theorem d_P_init_4 : decode prog_4_method_1_code 4 = .ok (.aload_n 0, 1) := by decide +kernel
theorem d_P_init_5 : decode prog_4_method_1_code 5 = .ok (.bipush 12, 2) := by decide +kernel
theorem d_P_init_7 : decode prog_4_method_1_code 7 = .ok (.newarray .int, 2) := by decide +kernel
theorem d_P_init_9 : decode prog_4_method_1_code 9 = .ok (.putfield 9, 3) := by decide +kernel
theorem d_P_init_12 : decode prog_4_method_1_code 12 = .ok (.aload_n 0, 1) := by decide +kernel
theorem d_P_init_13 : decode prog_4_method_1_code 13 = .ok (.bipush 12, 2) := by decide +kernel
theorem d_P_init_15 : decode prog_4_method_1_code 15 = .ok (.newarray .int, 2) := by decide +kernel
theorem d_P_init_17 : decode prog_4_method_1_code 17 = .ok (.putfield 15, 3) := by decide +kernel
theorem d_P_init_20 : decode prog_4_method_1_code 20 = .ok (.aload_n 0, 1) := by decide +kernel
theorem d_P_init_21 : decode prog_4_method_1_code 21 = .ok (.bipush 12, 2) := by decide +kernel
theorem d_P_init_23 : decode prog_4_method_1_code 23 = .ok (.newarray .int, 2) := by decide +kernel
theorem d_P_init_25 : decode prog_4_method_1_code 25 = .ok (.putfield 18, 3) := by decide +kernel
theorem d_P_init_28 : decode prog_4_method_1_code 28 = .ok (.aload_n 0, 1) := by decide +kernel
theorem d_P_init_29 : decode prog_4_method_1_code 29 = .ok (.iconst 0, 1) := by decide +kernel
theorem d_P_init_30 : decode prog_4_method_1_code 30 = .ok (.putfield 21, 3) := by decide +kernel
theorem d_P_init_33 : decode prog_4_method_1_code 33 = .ok (.return_, 1) := by decide +kernel
theorem d_P_has_0 : decode prog_4_method_2_code 0 = .ok (.iload_n 1, 1) := by decide +kernel
theorem d_P_has_1 : decode prog_4_method_2_code 1 = .ok (.ifCond .lt 15, 3) := by decide +kernel
theorem d_P_has_4 : decode prog_4_method_2_code 4 = .ok (.iload_n 1, 1) := by decide +kernel
theorem d_P_has_5 : decode prog_4_method_2_code 5 = .ok (.aload_n 0, 1) := by decide +kernel
theorem d_P_has_6 : decode prog_4_method_2_code 6 = .ok (.getfield 21, 3) := by decide +kernel
theorem d_P_has_9 : decode prog_4_method_2_code 9 = .ok (.if_icmp .ge 7, 3) := by decide +kernel
theorem d_P_has_12 : decode prog_4_method_2_code 12 = .ok (.iconst 1, 1) := by decide +kernel
theorem d_P_has_13 : decode prog_4_method_2_code 13 = .ok (.goto 4, 3) := by decide +kernel
theorem d_P_has_16 : decode prog_4_method_2_code 16 = .ok (.iconst 0, 1) := by decide +kernel
theorem d_P_has_17 : decode prog_4_method_2_code 17 = .ok (.ireturn, 1) := by decide +kernel
theorem d_P_endOf_0 : decode prog_4_method_3_code 0 = .ok (.aload_n 0, 1) := by decide +kernel
theorem d_P_endOf_1 : decode prog_4_method_3_code 1 = .ok (.iload_n 1, 1) := by decide +kernel
theorem d_P_endOf_2 : decode prog_4_method_3_code 2 = .ok (.invokevirtual 25, 3) := by decide +kernel
theorem d_P_endOf_5 : decode prog_4_method_3_code 5 = .ok (.ifCond .eq 12, 3) := by decide +kernel
theorem d_P_endOf_8 : decode prog_4_method_3_code 8 = .ok (.aload_n 0, 1) := by decide +kernel
theorem d_P_endOf_9 : decode prog_4_method_3_code 9 = .ok (.getfield 18, 3) := by decide +kernel
theorem d_P_endOf_12 : decode prog_4_method_3_code 12 = .ok (.iload_n 1, 1) := by decide +kernel
theorem d_P_endOf_13 : decode prog_4_method_3_code 13 = .ok (.iaload, 1) := by decide +kernel
theorem d_P_endOf_14 : decode prog_4_method_3_code 14 = .ok (.goto 7, 3) := by decide +kernel
theorem d_P_endOf_17 : decode prog_4_method_3_code 17 = .ok (.aload_n 0, 1) := by decide +kernel
theorem d_P_endOf_18 : decode prog_4_method_3_code 18 = .ok (.getfield 21, 3) := by decide +kernel
theorem d_P_endOf_21 : decode prog_4_method_3_code 21 = .ok (.ireturn, 1) := by decide +kernel
theorem d_P_append_0 : decode prog_4_method_4_code 0 = .ok (.aload_n 0, 1) := by decide +kernel
theorem d_P_append_1 : decode prog_4_method_4_code 1 = .ok (.getfield 21, 3) := by decide +kernel
theorem d_P_append_4 : decode prog_4_method_4_code 4 = .ok (.bipush 12, 2) := by decide +kernel
theorem d_P_append_6 : decode prog_4_method_4_code 6 = .ok (.if_icmp .lt 5, 3) := by decide +kernel
theorem d_P_append_9 : decode prog_4_method_4_code 9 = .ok (.iconst 0, 1) := by decide +kernel
theorem d_P_append_10 : decode prog_4_method_4_code 10 = .ok (.ireturn, 1) := by decide +kernel
theorem d_P_append_11 : decode prog_4_method_4_code 11 = .ok (.aload_n 0, 1) := by decide +kernel
theorem d_P_append_12 : decode prog_4_method_4_code 12 = .ok (.getfield 9, 3) := by decide +kernel
theorem d_P_append_15 : decode prog_4_method_4_code 15 = .ok (.aload_n 0, 1) := by decide +kernel
theorem d_P_append_16 : decode prog_4_method_4_code 16 = .ok (.getfield 21, 3) := by decide +kernel
theorem d_P_append_19 : decode prog_4_method_4_code 19 = .ok (.iload_n 1, 1) := by decide +kernel
theorem d_P_append_20 : decode prog_4_method_4_code 20 = .ok (.iastore, 1) := by decide +kernel
theorem d_P_append_21 : decode prog_4_method_4_code 21 = .ok (.aload_n 0, 1) := by decide +kernel
theorem d_P_append_22 : decode prog_4_method_4_code 22 = .ok (.getfield 15, 3) := by decide +kernel
theorem d_P_append_25 : decode prog_4_method_4_code 25 = .ok (.aload_n 0, 1) := by decide +kernel
theorem d_P_append_26 : decode prog_4_method_4_code 26 = .ok (.getfield 21, 3) := by decide +kernel
theorem d_P_append_29 : decode prog_4_method_4_code 29 = .ok (.iload_n 2, 1) := by decide +kernel
theorem d_P_append_30 : decode prog_4_method_4_code 30 = .ok (.iastore, 1) := by decide +kernel
theorem d_P_append_31 : decode prog_4_method_4_code 31 = .ok (.aload_n 0, 1) := by decide +kernel
theorem d_P_append_32 : decode prog_4_method_4_code 32 = .ok (.dup, 1) := by decide +kernel
theorem d_P_append_33 : decode prog_4_method_4_code 33 = .ok (.getfield 21, 3) := by decide +kernel
theorem d_P_append_36 : decode prog_4_method_4_code 36 = .ok (.iconst 1, 1) := by decide +kernel
theorem d_P_append_37 : decode prog_4_method_4_code 37 = .ok (.iadd, 1) := by decide +kernel
theorem d_P_append_38 : decode prog_4_method_4_code 38 = .ok (.putfield 21, 3) := by decide +kernel
theorem d_P_append_41 : decode prog_4_method_4_code 41 = .ok (.iconst 1, 1) := by decide +kernel
theorem d_P_append_42 : decode prog_4_method_4_code 42 = .ok (.ireturn, 1) := by decide +kernel
theorem d_P_isOneFuture_0 : decode prog_4_method_5_code 0 = .ok (.iconst 1, 1) := by decide +kernel
theorem d_P_isOneFuture_1 : decode prog_4_method_5_code 1 = .ok (.istore_n 1, 1) := by decide +kernel
theorem d_P_isOneFuture_2 : decode prog_4_method_5_code 2 = .ok (.iconst 0, 1) := by decide +kernel
theorem d_P_isOneFuture_3 : decode prog_4_method_5_code 3 = .ok (.istore_n 2, 1) := by decide +kernel
theorem d_P_isOneFuture_4 : decode prog_4_method_5_code 4 = .ok (.iload_n 2, 1) := by decide +kernel
theorem d_P_isOneFuture_5 : decode prog_4_method_5_code 5 = .ok (.aload_n 0, 1) := by decide +kernel
theorem d_P_isOneFuture_6 : decode prog_4_method_5_code 6 = .ok (.getfield 21, 3) := by decide +kernel
theorem d_P_isOneFuture_9 : decode prog_4_method_5_code 9 = .ok (.if_icmp .ge 30, 3) := by decide +kernel
theorem d_P_isOneFuture_12 : decode prog_4_method_5_code 12 = .ok (.iload_n 1, 1) := by decide +kernel
theorem d_P_isOneFuture_13 : decode prog_4_method_5_code 13 = .ok (.ifCond .ne 5, 3) := by decide +kernel
theorem d_P_isOneFuture_16 : decode prog_4_method_5_code 16 = .ok (.iconst 0, 1) := by decide +kernel
theorem d_P_isOneFuture_17 : decode prog_4_method_5_code 17 = .ok (.ireturn, 1) := by decide +kernel
theorem d_P_isOneFuture_18 : decode prog_4_method_5_code 18 = .ok (.iload_n 1, 1) := by decide +kernel
theorem d_P_isOneFuture_19 : decode prog_4_method_5_code 19 = .ok (.getstatic 29, 3) := by decide +kernel
theorem d_P_isOneFuture_22 : decode prog_4_method_5_code 22 = .ok (.aload_n 0, 1) := by decide +kernel
theorem d_P_isOneFuture_23 : decode prog_4_method_5_code 23 = .ok (.getfield 9, 3) := by decide +kernel
theorem d_P_isOneFuture_26 : decode prog_4_method_5_code 26 = .ok (.iload_n 2, 1) := by decide +kernel
theorem d_P_isOneFuture_27 : decode prog_4_method_5_code 27 = .ok (.iaload, 1) := by decide +kernel
theorem d_P_isOneFuture_28 : decode prog_4_method_5_code 28 = .ok (.iaload, 1) := by decide +kernel
theorem d_P_isOneFuture_29 : decode prog_4_method_5_code 29 = .ok (.iconst 1, 1) := by decide +kernel
theorem d_P_isOneFuture_30 : decode prog_4_method_5_code 30 = .ok (.isub, 1) := by decide +kernel
theorem d_P_isOneFuture_31 : decode prog_4_method_5_code 31 = .ok (.iadd, 1) := by decide +kernel
theorem d_P_isOneFuture_32 : decode prog_4_method_5_code 32 = .ok (.istore_n 1, 1) := by decide +kernel
theorem d_P_isOneFuture_33 : decode prog_4_method_5_code 33 = .ok (.iinc 2 1, 3) := by decide +kernel
theorem d_P_isOneFuture_36 : decode prog_4_method_5_code 36 = .ok (.goto (-32), 3) := by decide +kernel
theorem d_P_isOneFuture_39 : decode prog_4_method_5_code 39 = .ok (.iload_n 1, 1) := by decide +kernel
theorem d_P_isOneFuture_40 : decode prog_4_method_5_code 40 = .ok (.ifCond .ne 7, 3) := by decide +kernel
theorem d_P_isOneFuture_43 : decode prog_4_method_5_code 43 = .ok (.iconst 1, 1) := by decide +kernel
theorem d_P_isOneFuture_44 : decode prog_4_method_5_code 44 = .ok (.goto 4, 3) := by decide +kernel
theorem d_P_isOneFuture_47 : decode prog_4_method_5_code 47 = .ok (.iconst 0, 1) := by decide +kernel
theorem d_P_isOneFuture_48 : decode prog_4_method_5_code 48 = .ok (.ireturn, 1) := by decide +kernel
theorem d_P_findEnds_0 : decode prog_4_method_6_code 0 = .ok (.aload_n 0, 1) := by decide +kernel
theorem d_P_findEnds_1 : decode prog_4_method_6_code 1 = .ok (.getfield 21, 3) := by decide +kernel
theorem d_P_findEnds_4 : decode prog_4_method_6_code 4 = .ok (.iconst 1, 1) := by decide +kernel
theorem d_P_findEnds_5 : decode prog_4_method_6_code 5 = .ok (.isub, 1) := by decide +kernel
theorem d_P_findEnds_6 : decode prog_4_method_6_code 6 = .ok (.istore_n 1, 1) := by decide +kernel
theorem d_P_findEnds_7 : decode prog_4_method_6_code 7 = .ok (.iload_n 1, 1) := by decide +kernel
theorem d_P_findEnds_8 : decode prog_4_method_6_code 8 = .ok (.ifCond .lt 48, 3) := by decide +kernel
theorem d_P_findEnds_11 : decode prog_4_method_6_code 11 = .ok (.iload_n 1, 1) := by decide +kernel
theorem d_P_findEnds_12 : decode prog_4_method_6_code 12 = .ok (.iconst 1, 1) := by decide +kernel
theorem d_P_findEnds_13 : decode prog_4_method_6_code 13 = .ok (.iadd, 1) := by decide +kernel
theorem d_P_findEnds_14 : decode prog_4_method_6_code 14 = .ok (.istore_n 2, 1) := by decide +kernel
theorem d_P_findEnds_15 : decode prog_4_method_6_code 15 = .ok (.iconst 0, 1) := by decide +kernel
theorem d_P_findEnds_16 : decode prog_4_method_6_code 16 = .ok (.istore_n 3, 1) := by decide +kernel
theorem d_P_findEnds_17 : decode prog_4_method_6_code 17 = .ok (.iload_n 3, 1) := by decide +kernel
theorem d_P_findEnds_18 : decode prog_4_method_6_code 18 = .ok (.getstatic 29, 3) := by decide +kernel
theorem d_P_findEnds_21 : decode prog_4_method_6_code 21 = .ok (.aload_n 0, 1) := by decide +kernel
theorem d_P_findEnds_22 : decode prog_4_method_6_code 22 = .ok (.getfield 9, 3) := by decide +kernel
theorem d_P_findEnds_25 : decode prog_4_method_6_code 25 = .ok (.iload_n 1, 1) := by decide +kernel
theorem d_P_findEnds_26 : decode prog_4_method_6_code 26 = .ok (.iaload, 1) := by decide +kernel
theorem d_P_findEnds_27 : decode prog_4_method_6_code 27 = .ok (.iaload, 1) := by decide +kernel
theorem d_P_findEnds_28 : decode prog_4_method_6_code 28 = .ok (.if_icmp .ge 15, 3) := by decide +kernel
theorem d_P_findEnds_31 : decode prog_4_method_6_code 31 = .ok (.aload_n 0, 1) := by decide +kernel
theorem d_P_findEnds_32 : decode prog_4_method_6_code 32 = .ok (.iload_n 2, 1) := by decide +kernel
theorem d_P_findEnds_33 : decode prog_4_method_6_code 33 = .ok (.invokevirtual 32, 3) := by decide +kernel
theorem d_P_findEnds_36 : decode prog_4_method_6_code 36 = .ok (.istore_n 2, 1) := by decide +kernel
theorem d_P_findEnds_37 : decode prog_4_method_6_code 37 = .ok (.iinc 3 1, 3) := by decide +kernel
theorem d_P_findEnds_40 : decode prog_4_method_6_code 40 = .ok (.goto (-23), 3) := by decide +kernel
theorem d_P_findEnds_43 : decode prog_4_method_6_code 43 = .ok (.aload_n 0, 1) := by decide +kernel
theorem d_P_findEnds_44 : decode prog_4_method_6_code 44 = .ok (.getfield 18, 3) := by decide +kernel
theorem d_P_findEnds_47 : decode prog_4_method_6_code 47 = .ok (.iload_n 1, 1) := by decide +kernel
theorem d_P_findEnds_48 : decode prog_4_method_6_code 48 = .ok (.iload_n 2, 1) := by decide +kernel
theorem d_P_findEnds_49 : decode prog_4_method_6_code 49 = .ok (.iastore, 1) := by decide +kernel
theorem d_P_findEnds_50 : decode prog_4_method_6_code 50 = .ok (.iinc 1 (-1), 3) := by decide +kernel
theorem d_P_findEnds_53 : decode prog_4_method_6_code 53 = .ok (.goto (-46), 3) := by decide +kernel
theorem d_P_findEnds_56 : decode prog_4_method_6_code 56 = .ok (.return_, 1) := by decide +kernel
theorem d_R_init_0 : decode prog_5_method_1_code 0 = .ok (.aload_n 0, 1) := by decide +kernel
theorem d_R_init_1 : decode prog_5_method_1_code 1 = .ok (.invokespecial 3, 3) := by decide +kernel
theorem d_R_init_4 : decode prog_5_method_1_code 4 = .ok (.aload_n 0, 1) := by decide +kernel
theorem d_R_init_5 : decode prog_5_method_1_code 5 = .ok (.iconst 0, 1) := by decide +kernel
theorem d_R_init_6 : decode prog_5_method_1_code 6 = .ok (.putfield 9, 3) := by decide +kernel
theorem d_R_init_9 : decode prog_5_method_1_code 9 = .ok (.aload_n 0, 1) := by decide +kernel
theorem d_R_init_10 : decode prog_5_method_1_code 10 = .ok (.iload_n 1, 1) := by decide +kernel
theorem d_R_init_11 : decode prog_5_method_1_code 11 = .ok (.iconst 0, 1) := by decide +kernel
theorem d_R_init_12 : decode prog_5_method_1_code 12 = .ok (.invokestatic 15, 3) := by decide +kernel
theorem d_R_init_15 : decode prog_5_method_1_code 15 = .ok (.newarray .int, 2) := by decide +kernel
theorem d_R_init_17 : decode prog_5_method_1_code 17 = .ok (.putfield 21, 3) := by decide +kernel
theorem d_R_init_20 : decode prog_5_method_1_code 20 = .ok (.return_, 1) := by decide +kernel
theorem d_R_isEmpty_0 : decode prog_5_method_2_code 0 = .ok (.aload_n 0, 1) := by decide +kernel
theorem d_R_isEmpty_1 : decode prog_5_method_2_code 1 = .ok (.getfield 9, 3) := by decide +kernel
theorem d_R_isEmpty_4 : decode prog_5_method_2_code 4 = .ok (.ifCond .ne 7, 3) := by decide +kernel
theorem d_R_isEmpty_7 : decode prog_5_method_2_code 7 = .ok (.iconst 1, 1) := by decide +kernel
theorem d_R_isEmpty_8 : decode prog_5_method_2_code 8 = .ok (.goto 4, 3) := by decide +kernel
theorem d_R_isEmpty_11 : decode prog_5_method_2_code 11 = .ok (.iconst 0, 1) := by decide +kernel
theorem d_R_isEmpty_12 : decode prog_5_method_2_code 12 = .ok (.ireturn, 1) := by decide +kernel
theorem d_R_at_0 : decode prog_5_method_3_code 0 = .ok (.iload_n 1, 1) := by decide +kernel
theorem d_R_at_1 : decode prog_5_method_3_code 1 = .ok (.ifCond .lt 11, 3) := by decide +kernel
theorem d_R_at_4 : decode prog_5_method_3_code 4 = .ok (.iload_n 1, 1) := by decide +kernel
theorem d_R_at_5 : decode prog_5_method_3_code 5 = .ok (.aload_n 0, 1) := by decide +kernel
theorem d_R_at_6 : decode prog_5_method_3_code 6 = .ok (.getfield 9, 3) := by decide +kernel
theorem d_R_at_9 : decode prog_5_method_3_code 9 = .ok (.if_icmp .lt 7, 3) := by decide +kernel
theorem d_R_at_12 : decode prog_5_method_3_code 12 = .ok (.iconst (-1), 1) := by decide +kernel
theorem d_R_at_13 : decode prog_5_method_3_code 13 = .ok (.goto 9, 3) := by decide +kernel
theorem d_R_at_16 : decode prog_5_method_3_code 16 = .ok (.aload_n 0, 1) := by decide +kernel
theorem d_R_at_17 : decode prog_5_method_3_code 17 = .ok (.getfield 21, 3) := by decide +kernel
theorem d_R_at_20 : decode prog_5_method_3_code 20 = .ok (.iload_n 1, 1) := by decide +kernel
theorem d_R_at_21 : decode prog_5_method_3_code 21 = .ok (.iaload, 1) := by decide +kernel
theorem d_R_at_22 : decode prog_5_method_3_code 22 = .ok (.ireturn, 1) := by decide +kernel
theorem d_R_add_0 : decode prog_5_method_4_code 0 = .ok (.aload_n 0, 1) := by decide +kernel
theorem d_R_add_1 : decode prog_5_method_4_code 1 = .ok (.getfield 9, 3) := by decide +kernel
theorem d_R_add_4 : decode prog_5_method_4_code 4 = .ok (.aload_n 0, 1) := by decide +kernel
theorem d_R_add_5 : decode prog_5_method_4_code 5 = .ok (.getfield 21, 3) := by decide +kernel
theorem d_R_add_8 : decode prog_5_method_4_code 8 = .ok (.arraylength, 1) := by decide +kernel
theorem d_R_add_9 : decode prog_5_method_4_code 9 = .ok (.if_icmp .ge 23, 3) := by decide +kernel
theorem d_R_add_12 : decode prog_5_method_4_code 12 = .ok (.aload_n 0, 1) := by decide +kernel
theorem d_R_add_13 : decode prog_5_method_4_code 13 = .ok (.getfield 21, 3) := by decide +kernel
theorem d_R_add_16 : decode prog_5_method_4_code 16 = .ok (.aload_n 0, 1) := by decide +kernel
theorem d_R_add_17 : decode prog_5_method_4_code 17 = .ok (.getfield 9, 3) := by decide +kernel
theorem d_R_add_20 : decode prog_5_method_4_code 20 = .ok (.iload_n 1, 1) := by decide +kernel
theorem d_R_add_21 : decode prog_5_method_4_code 21 = .ok (.iastore, 1) := by decide +kernel
theorem d_R_add_22 : decode prog_5_method_4_code 22 = .ok (.aload_n 0, 1) := by decide +kernel
theorem d_R_add_23 : decode prog_5_method_4_code 23 = .ok (.dup, 1) := by decide +kernel
theorem d_R_add_24 : decode prog_5_method_4_code 24 = .ok (.getfield 9, 3) := by decide +kernel
theorem d_R_add_27 : decode prog_5_method_4_code 27 = .ok (.iconst 1, 1) := by decide +kernel
theorem d_R_add_28 : decode prog_5_method_4_code 28 = .ok (.iadd, 1) := by decide +kernel
theorem d_R_add_29 : decode prog_5_method_4_code 29 = .ok (.putfield 9, 3) := by decide +kernel
theorem d_R_add_32 : decode prog_5_method_4_code 32 = .ok (.return_, 1) := by decide +kernel
theorem d_R_indexOf_0 : decode prog_5_method_5_code 0 = .ok (.iconst 0, 1) := by decide +kernel
theorem d_R_indexOf_1 : decode prog_5_method_5_code 1 = .ok (.istore_n 2, 1) := by decide +kernel
theorem d_R_indexOf_2 : decode prog_5_method_5_code 2 = .ok (.iload_n 2, 1) := by decide +kernel
theorem d_R_indexOf_3 : decode prog_5_method_5_code 3 = .ok (.aload_n 0, 1) := by decide +kernel
theorem d_R_indexOf_4 : decode prog_5_method_5_code 4 = .ok (.getfield 9, 3) := by decide +kernel
theorem d_R_indexOf_7 : decode prog_5_method_5_code 7 = .ok (.if_icmp .ge 21, 3) := by decide +kernel
theorem d_R_indexOf_10 : decode prog_5_method_5_code 10 = .ok (.aload_n 0, 1) := by decide +kernel
theorem d_R_indexOf_11 : decode prog_5_method_5_code 11 = .ok (.getfield 21, 3) := by decide +kernel
theorem d_R_indexOf_14 : decode prog_5_method_5_code 14 = .ok (.iload_n 2, 1) := by decide +kernel
theorem d_R_indexOf_15 : decode prog_5_method_5_code 15 = .ok (.iaload, 1) := by decide +kernel
theorem d_R_indexOf_16 : decode prog_5_method_5_code 16 = .ok (.iload_n 1, 1) := by decide +kernel
theorem d_R_indexOf_17 : decode prog_5_method_5_code 17 = .ok (.if_icmp .ne 5, 3) := by decide +kernel
theorem d_R_indexOf_20 : decode prog_5_method_5_code 20 = .ok (.iload_n 2, 1) := by decide +kernel
theorem d_R_indexOf_21 : decode prog_5_method_5_code 21 = .ok (.ireturn, 1) := by decide +kernel
theorem d_R_indexOf_22 : decode prog_5_method_5_code 22 = .ok (.iinc 2 1, 3) := by decide +kernel
theorem d_R_indexOf_25 : decode prog_5_method_5_code 25 = .ok (.goto (-23), 3) := by decide +kernel
theorem d_R_indexOf_28 : decode prog_5_method_5_code 28 = .ok (.iconst (-1), 1) := by decide +kernel
theorem d_R_indexOf_29 : decode prog_5_method_5_code 29 = .ok (.ireturn, 1) := by decide +kernel
theorem d_R_holds_0 : decode prog_5_method_6_code 0 = .ok (.aload_n 0, 1) := by decide +kernel
theorem d_R_holds_1 : decode prog_5_method_6_code 1 = .ok (.iload_n 1, 1) := by decide +kernel
theorem d_R_holds_2 : decode prog_5_method_6_code 2 = .ok (.invokevirtual 25, 3) := by decide +kernel
theorem d_R_holds_5 : decode prog_5_method_6_code 5 = .ok (.iconst (-1), 1) := by decide +kernel
theorem d_R_holds_6 : decode prog_5_method_6_code 6 = .ok (.if_icmp .eq 7, 3) := by decide +kernel
theorem d_R_holds_9 : decode prog_5_method_6_code 9 = .ok (.iconst 1, 1) := by decide +kernel
theorem d_R_holds_10 : decode prog_5_method_6_code 10 = .ok (.goto 4, 3) := by decide +kernel
theorem d_R_holds_13 : decode prog_5_method_6_code 13 = .ok (.iconst 0, 1) := by decide +kernel
theorem d_R_holds_14 : decode prog_5_method_6_code 14 = .ok (.ireturn, 1) := by decide +kernel
theorem d_R_remove_0 : decode prog_5_method_7_code 0 = .ok (.aload_n 0, 1) := by decide +kernel
theorem d_R_remove_1 : decode prog_5_method_7_code 1 = .ok (.aload_n 0, 1) := by decide +kernel
theorem d_R_remove_2 : decode prog_5_method_7_code 2 = .ok (.iload_n 1, 1) := by decide +kernel
theorem d_R_remove_3 : decode prog_5_method_7_code 3 = .ok (.invokevirtual 25, 3) := by decide +kernel
theorem d_R_remove_6 : decode prog_5_method_7_code 6 = .ok (.invokevirtual 29, 3) := by decide +kernel
theorem d_R_remove_9 : decode prog_5_method_7_code 9 = .ok (.return_, 1) := by decide +kernel
theorem d_R_takeFirst_0 : decode prog_5_method_8_code 0 = .ok (.aload_n 0, 1) := by decide +kernel
theorem d_R_takeFirst_1 : decode prog_5_method_8_code 1 = .ok (.iconst 0, 1) := by decide +kernel
theorem d_R_takeFirst_2 : decode prog_5_method_8_code 2 = .ok (.invokevirtual 33, 3) := by decide +kernel
theorem d_R_takeFirst_5 : decode prog_5_method_8_code 5 = .ok (.istore_n 1, 1) := by decide +kernel
theorem d_R_takeFirst_6 : decode prog_5_method_8_code 6 = .ok (.aload_n 0, 1) := by decide +kernel
theorem d_R_takeFirst_7 : decode prog_5_method_8_code 7 = .ok (.iconst 0, 1) := by decide +kernel
theorem d_R_takeFirst_8 : decode prog_5_method_8_code 8 = .ok (.invokevirtual 29, 3) := by decide +kernel
theorem d_R_takeFirst_11 : decode prog_5_method_8_code 11 = .ok (.iload_n 1, 1) := by decide +kernel
theorem d_R_takeFirst_12 : decode prog_5_method_8_code 12 = .ok (.ireturn, 1) := by decide +kernel
theorem d_R_removeAt_0 : decode prog_5_method_9_code 0 = .ok (.iload_n 1, 1) := by decide +kernel
theorem d_R_removeAt_1 : decode prog_5_method_9_code 1 = .ok (.ifCond .lt 11, 3) := by decide +kernel
theorem d_R_removeAt_4 : decode prog_5_method_9_code 4 = .ok (.iload_n 1, 1) := by decide +kernel
theorem d_R_removeAt_5 : decode prog_5_method_9_code 5 = .ok (.aload_n 0, 1) := by decide +kernel
theorem d_R_removeAt_6 : decode prog_5_method_9_code 6 = .ok (.getfield 9, 3) := by decide +kernel
theorem d_R_removeAt_9 : decode prog_5_method_9_code 9 = .ok (.if_icmp .lt 4, 3) := by decide +kernel
theorem d_R_removeAt_12 : decode prog_5_method_9_code 12 = .ok (.return_, 1) := by decide +kernel
theorem d_R_removeAt_13 : decode prog_5_method_9_code 13 = .ok (.aload_n 0, 1) := by decide +kernel
theorem d_R_removeAt_14 : decode prog_5_method_9_code 14 = .ok (.dup, 1) := by decide +kernel
theorem d_R_removeAt_15 : decode prog_5_method_9_code 15 = .ok (.getfield 9, 3) := by decide +kernel
theorem d_R_removeAt_18 : decode prog_5_method_9_code 18 = .ok (.iconst 1, 1) := by decide +kernel
theorem d_R_removeAt_19 : decode prog_5_method_9_code 19 = .ok (.isub, 1) := by decide +kernel
theorem d_R_removeAt_20 : decode prog_5_method_9_code 20 = .ok (.putfield 9, 3) := by decide +kernel
theorem d_R_removeAt_23 : decode prog_5_method_9_code 23 = .ok (.iload_n 1, 1) := by decide +kernel
theorem d_R_removeAt_24 : decode prog_5_method_9_code 24 = .ok (.istore_n 2, 1) := by decide +kernel
theorem d_R_removeAt_25 : decode prog_5_method_9_code 25 = .ok (.iload_n 2, 1) := by decide +kernel
theorem d_R_removeAt_26 : decode prog_5_method_9_code 26 = .ok (.aload_n 0, 1) := by decide +kernel
theorem d_R_removeAt_27 : decode prog_5_method_9_code 27 = .ok (.getfield 9, 3) := by decide +kernel
theorem d_R_removeAt_30 : decode prog_5_method_9_code 30 = .ok (.if_icmp .ge 23, 3) := by decide +kernel
theorem d_R_removeAt_33 : decode prog_5_method_9_code 33 = .ok (.aload_n 0, 1) := by decide +kernel
theorem d_R_removeAt_34 : decode prog_5_method_9_code 34 = .ok (.getfield 21, 3) := by decide +kernel
theorem d_R_removeAt_37 : decode prog_5_method_9_code 37 = .ok (.iload_n 2, 1) := by decide +kernel
theorem d_R_removeAt_38 : decode prog_5_method_9_code 38 = .ok (.aload_n 0, 1) := by decide +kernel
theorem d_R_removeAt_39 : decode prog_5_method_9_code 39 = .ok (.getfield 21, 3) := by decide +kernel
theorem d_R_removeAt_42 : decode prog_5_method_9_code 42 = .ok (.iload_n 2, 1) := by decide +kernel
theorem d_R_removeAt_43 : decode prog_5_method_9_code 43 = .ok (.iconst 1, 1) := by decide +kernel
theorem d_R_removeAt_44 : decode prog_5_method_9_code 44 = .ok (.iadd, 1) := by decide +kernel
theorem d_R_removeAt_45 : decode prog_5_method_9_code 45 = .ok (.iaload, 1) := by decide +kernel
theorem d_R_removeAt_46 : decode prog_5_method_9_code 46 = .ok (.iastore, 1) := by decide +kernel
theorem d_R_removeAt_47 : decode prog_5_method_9_code 47 = .ok (.iinc 2 1, 3) := by decide +kernel
theorem d_R_removeAt_50 : decode prog_5_method_9_code 50 = .ok (.goto (-25), 3) := by decide +kernel
theorem d_R_removeAt_53 : decode prog_5_method_9_code 53 = .ok (.return_, 1) := by decide +kernel
theorem d_T_init_0 : decode prog_6_method_1_code 0 = .ok (.aload_n 0, 1) := by decide +kernel
theorem d_T_init_1 : decode prog_6_method_1_code 1 = .ok (.invokespecial 3, 3) := by decide +kernel
theorem d_T_init_4 : decode prog_6_method_1_code 4 = .ok (.aload_n 0, 1) := by decide +kernel
theorem d_T_init_5 : decode prog_6_method_1_code 5 = .ok (.iconst 1, 1) := by decide +kernel
theorem d_T_init_6 : decode prog_6_method_1_code 6 = .ok (.putfield 9, 3) := by decide +kernel
theorem d_T_init_9 : decode prog_6_method_1_code 9 = .ok (.aload_n 0, 1) := by decide +kernel
theorem d_T_init_10 : decode prog_6_method_1_code 10 = .ok (.iconst 0, 1) := by decide +kernel
theorem d_T_init_11 : decode prog_6_method_1_code 11 = .ok (.putfield 15, 3) := by decide +kernel
theorem d_T_init_14 : decode prog_6_method_1_code 14 = .ok (.aload_n 0, 1) := by decide +kernel
theorem d_T_init_15 : decode prog_6_method_1_code 15 = .ok (.iconst 0, 1) := by decide +kernel
theorem d_T_init_16 : decode prog_6_method_1_code 16 = .ok (.putfield 18, 3) := by decide +kernel
theorem d_T_init_19 : decode prog_6_method_1_code 19 = .ok (.aload_n 0, 1) := by decide +kernel
theorem d_T_init_20 : decode prog_6_method_1_code 20 = .ok (.iconst 4, 1) := by decide +kernel
theorem d_T_init_21 : decode prog_6_method_1_code 21 = .ok (.putfield 21, 3) := by decide +kernel
theorem d_T_init_24 : decode prog_6_method_1_code 24 = .ok (.aload_n 0, 1) := by decide +kernel
theorem d_T_init_25 : decode prog_6_method_1_code 25 = .ok (.iconst 0, 1) := by decide +kernel
theorem d_T_init_26 : decode prog_6_method_1_code 26 = .ok (.putfield 24, 3) := by decide +kernel
theorem d_T_init_29 : decode prog_6_method_1_code 29 = .ok (.aload_n 0, 1) := by decide +kernel
theorem d_T_init_30 : decode prog_6_method_1_code 30 = .ok (.bipush 12, 2) := by decide +kernel
theorem d_T_init_32 : decode prog_6_method_1_code 32 = .ok (.newarray .int, 2) := by decide +kernel
theorem d_T_init_34 : decode prog_6_method_1_code 34 = .ok (.putfield 28, 3) := by decide +kernel
theorem d_T_init_37 : decode prog_6_method_1_code 37 = .ok (.aload_n 0, 1) := by decide +kernel
theorem d_T_init_38 : decode prog_6_method_1_code 38 = .ok (.bipush 12, 2) := by decide +kernel
theorem d_T_init_40 : decode prog_6_method_1_code 40 = .ok (.newarray .int, 2) := by decide +kernel
theorem d_T_init_42 : decode prog_6_method_1_code 42 = .ok (.putfield 32, 3) := by decide +kernel
theorem d_T_init_45 : decode prog_6_method_1_code 45 = .ok (.aload_n 0, 1) := by decide +kernel
theorem d_T_init_46 : decode prog_6_method_1_code 46 = .ok (.bipush 12, 2) := by decide +kernel
theorem d_T_init_48 : decode prog_6_method_1_code 48 = .ok (.newarray .int, 2) := by decide +kernel
theorem d_T_init_50 : decode prog_6_method_1_code 50 = .ok (.putfield 35, 3) := by decide +kernel
theorem d_T_init_53 : decode prog_6_method_1_code 53 = .ok (.aload_n 0, 1) := by decide +kernel
theorem d_T_init_54 : decode prog_6_method_1_code 54 = .ok (.iload_n 1, 1) := by decide +kernel
theorem d_T_init_55 : decode prog_6_method_1_code 55 = .ok (.putfield 38, 3) := by decide +kernel
theorem d_T_init_58 : decode prog_6_method_1_code 58 = .ok (.aload_n 0, 1) := by decide +kernel
theorem d_T_init_59 : decode prog_6_method_1_code 59 = .ok (.iload_n 2, 1) := by decide +kernel
theorem d_T_init_60 : decode prog_6_method_1_code 60 = .ok (.putfield 41, 3) := by decide +kernel
theorem d_T_init_63 : decode prog_6_method_1_code 63 = .ok (.aload_n 0, 1) := by decide +kernel
theorem d_T_init_64 : decode prog_6_method_1_code 64 = .ok (.aload_n 3, 1) := by decide +kernel
theorem d_T_init_65 : decode prog_6_method_1_code 65 = .ok (.putfield 44, 3) := by decide +kernel
theorem d_T_init_68 : decode prog_6_method_1_code 68 = .ok (.iconst 0, 1) := by decide +kernel
theorem d_T_init_69 : decode prog_6_method_1_code 69 = .ok (.istore 4, 2) := by decide +kernel
theorem d_T_init_71 : decode prog_6_method_1_code 71 = .ok (.iload 4, 2) := by decide +kernel
theorem d_T_init_73 : decode prog_6_method_1_code 73 = .ok (.bipush 12, 2) := by decide +kernel
theorem d_T_init_75 : decode prog_6_method_1_code 75 = .ok (.if_icmp .ge 17, 3) := by decide +kernel
theorem d_T_init_78 : decode prog_6_method_1_code 78 = .ok (.aload_n 0, 1) := by decide +kernel
theorem d_T_init_79 : decode prog_6_method_1_code 79 = .ok (.getfield 35, 3) := by decide +kernel
theorem d_T_init_82 : decode prog_6_method_1_code 82 = .ok (.iload 4, 2) := by decide +kernel
theorem d_T_init_84 : decode prog_6_method_1_code 84 = .ok (.iconst (-1), 1) := by decide +kernel
theorem d_T_init_85 : decode prog_6_method_1_code 85 = .ok (.iastore, 1) := by decide +kernel
theorem d_T_init_86 : decode prog_6_method_1_code 86 = .ok (.iinc 4 1, 3) := by decide +kernel
theorem d_T_init_89 : decode prog_6_method_1_code 89 = .ok (.goto (-18), 3) := by decide +kernel
theorem d_T_init_92 : decode prog_6_method_1_code 92 = .ok (.return_, 1) := by decide +kernel
theorem d_T_hasEnded_0 : decode prog_6_method_2_code 0 = .ok (.aload_n 0, 1) := by decide +kernel
theorem d_T_hasEnded_1 : decode prog_6_method_2_code 1 = .ok (.getfield 9, 3) := by decide +kernel
theorem d_T_hasEnded_4 : decode prog_6_method_2_code 4 = .ok (.iconst 2, 1) := by decide +kernel
theorem d_T_hasEnded_5 : decode prog_6_method_2_code 5 = .ok (.if_icmp .eq 19, 3) := by decide +kernel
theorem d_T_hasEnded_8 : decode prog_6_method_2_code 8 = .ok (.aload_n 0, 1) := by decide +kernel
theorem d_T_hasEnded_9 : decode prog_6_method_2_code 9 = .ok (.getfield 9, 3) := by decide +kernel
theorem d_T_hasEnded_12 : decode prog_6_method_2_code 12 = .ok (.iconst 3, 1) := by decide +kernel
theorem d_T_hasEnded_13 : decode prog_6_method_2_code 13 = .ok (.if_icmp .eq 11, 3) := by decide +kernel
theorem d_T_hasEnded_16 : decode prog_6_method_2_code 16 = .ok (.aload_n 0, 1) := by decide +kernel
theorem d_T_hasEnded_17 : decode prog_6_method_2_code 17 = .ok (.getfield 9, 3) := by decide +kernel
theorem d_T_hasEnded_20 : decode prog_6_method_2_code 20 = .ok (.iconst 4, 1) := by decide +kernel
theorem d_T_hasEnded_21 : decode prog_6_method_2_code 21 = .ok (.if_icmp .ne 7, 3) := by decide +kernel
theorem d_T_hasEnded_24 : decode prog_6_method_2_code 24 = .ok (.iconst 1, 1) := by decide +kernel
theorem d_T_hasEnded_25 : decode prog_6_method_2_code 25 = .ok (.goto 4, 3) := by decide +kernel
theorem d_T_hasEnded_28 : decode prog_6_method_2_code 28 = .ok (.iconst 0, 1) := by decide +kernel
theorem d_T_hasEnded_29 : decode prog_6_method_2_code 29 = .ok (.ireturn, 1) := by decide +kernel
theorem d_T_placeOf_0 : decode prog_6_method_3_code 0 = .ok (.aload_n 0, 1) := by decide +kernel
theorem d_T_placeOf_1 : decode prog_6_method_3_code 1 = .ok (.getfield 38, 3) := by decide +kernel
theorem d_T_placeOf_4 : decode prog_6_method_3_code 4 = .ok (.bipush 12, 2) := by decide +kernel
theorem d_T_placeOf_6 : decode prog_6_method_3_code 6 = .ok (.imul, 1) := by decide +kernel
theorem d_T_placeOf_7 : decode prog_6_method_3_code 7 = .ok (.iload_n 1, 1) := by decide +kernel
theorem d_T_placeOf_8 : decode prog_6_method_3_code 8 = .ok (.iadd, 1) := by decide +kernel
theorem d_T_placeOf_9 : decode prog_6_method_3_code 9 = .ok (.ireturn, 1) := by decide +kernel
theorem d_T_phaseOf_0 : decode prog_6_method_4_code 0 = .ok (.aload_n 0, 1) := by decide +kernel
theorem d_T_phaseOf_1 : decode prog_6_method_4_code 1 = .ok (.getfield 44, 3) := by decide +kernel
theorem d_T_phaseOf_4 : decode prog_6_method_4_code 4 = .ok (.iload_n 1, 1) := by decide +kernel
theorem d_T_phaseOf_5 : decode prog_6_method_4_code 5 = .ok (.invokevirtual 48, 3) := by decide +kernel
theorem d_T_phaseOf_8 : decode prog_6_method_4_code 8 = .ok (.ifCond .eq 12, 3) := by decide +kernel
theorem d_T_phaseOf_11 : decode prog_6_method_4_code 11 = .ok (.aload_n 0, 1) := by decide +kernel
theorem d_T_phaseOf_12 : decode prog_6_method_4_code 12 = .ok (.getfield 28, 3) := by decide +kernel
theorem d_T_phaseOf_15 : decode prog_6_method_4_code 15 = .ok (.iload_n 1, 1) := by decide +kernel
theorem d_T_phaseOf_16 : decode prog_6_method_4_code 16 = .ok (.iaload, 1) := by decide +kernel
theorem d_T_phaseOf_17 : decode prog_6_method_4_code 17 = .ok (.goto 4, 3) := by decide +kernel
theorem d_T_phaseOf_20 : decode prog_6_method_4_code 20 = .ok (.iconst 0, 1) := by decide +kernel
theorem d_T_phaseOf_21 : decode prog_6_method_4_code 21 = .ok (.ireturn, 1) := by decide +kernel
theorem d_T_resultOf_0 : decode prog_6_method_5_code 0 = .ok (.aload_n 0, 1) := by decide +kernel
theorem d_T_resultOf_1 : decode prog_6_method_5_code 1 = .ok (.getfield 44, 3) := by decide +kernel
theorem d_T_resultOf_4 : decode prog_6_method_5_code 4 = .ok (.iload_n 1, 1) := by decide +kernel
theorem d_T_resultOf_5 : decode prog_6_method_5_code 5 = .ok (.invokevirtual 48, 3) := by decide +kernel
theorem d_T_resultOf_8 : decode prog_6_method_5_code 8 = .ok (.ifCond .eq 12, 3) := by decide +kernel
theorem d_T_resultOf_11 : decode prog_6_method_5_code 11 = .ok (.aload_n 0, 1) := by decide +kernel
theorem d_T_resultOf_12 : decode prog_6_method_5_code 12 = .ok (.getfield 32, 3) := by decide +kernel
theorem d_T_resultOf_15 : decode prog_6_method_5_code 15 = .ok (.iload_n 1, 1) := by decide +kernel
theorem d_T_resultOf_16 : decode prog_6_method_5_code 16 = .ok (.iaload, 1) := by decide +kernel
theorem d_T_resultOf_17 : decode prog_6_method_5_code 17 = .ok (.goto 4, 3) := by decide +kernel
theorem d_T_resultOf_20 : decode prog_6_method_5_code 20 = .ok (.iconst 0, 1) := by decide +kernel
theorem d_T_resultOf_21 : decode prog_6_method_5_code 21 = .ok (.ireturn, 1) := by decide +kernel
theorem d_T_makeReady_0 : decode prog_6_method_6_code 0 = .ok (.aload_n 0, 1) := by decide +kernel
theorem d_T_makeReady_1 : decode prog_6_method_6_code 1 = .ok (.getfield 28, 3) := by decide +kernel
theorem d_T_makeReady_4 : decode prog_6_method_6_code 4 = .ok (.iload_n 1, 1) := by decide +kernel
theorem d_T_makeReady_5 : decode prog_6_method_6_code 5 = .ok (.iconst 2, 1) := by decide +kernel
theorem d_T_makeReady_6 : decode prog_6_method_6_code 6 = .ok (.iastore, 1) := by decide +kernel
theorem d_T_makeReady_7 : decode prog_6_method_6_code 7 = .ok (.aload_n 0, 1) := by decide +kernel
theorem d_T_makeReady_8 : decode prog_6_method_6_code 8 = .ok (.getfield 32, 3) := by decide +kernel
theorem d_T_makeReady_11 : decode prog_6_method_6_code 11 = .ok (.iload_n 1, 1) := by decide +kernel
theorem d_T_makeReady_12 : decode prog_6_method_6_code 12 = .ok (.iload_n 2, 1) := by decide +kernel
theorem d_T_makeReady_13 : decode prog_6_method_6_code 13 = .ok (.iastore, 1) := by decide +kernel
theorem d_T_makeReady_14 : decode prog_6_method_6_code 14 = .ok (.return_, 1) := by decide +kernel
theorem d_T_makeBroken_0 : decode prog_6_method_7_code 0 = .ok (.aload_n 0, 1) := by decide +kernel
theorem d_T_makeBroken_1 : decode prog_6_method_7_code 1 = .ok (.getfield 28, 3) := by decide +kernel
theorem d_T_makeBroken_4 : decode prog_6_method_7_code 4 = .ok (.iload_n 1, 1) := by decide +kernel
theorem d_T_makeBroken_5 : decode prog_6_method_7_code 5 = .ok (.iconst 3, 1) := by decide +kernel
theorem d_T_makeBroken_6 : decode prog_6_method_7_code 6 = .ok (.iastore, 1) := by decide +kernel
theorem d_T_makeBroken_7 : decode prog_6_method_7_code 7 = .ok (.aload_n 0, 1) := by decide +kernel
theorem d_T_makeBroken_8 : decode prog_6_method_7_code 8 = .ok (.getfield 32, 3) := by decide +kernel
theorem d_T_makeBroken_11 : decode prog_6_method_7_code 11 = .ok (.iload_n 1, 1) := by decide +kernel
theorem d_T_makeBroken_12 : decode prog_6_method_7_code 12 = .ok (.iload_n 2, 1) := by decide +kernel
theorem d_T_makeBroken_13 : decode prog_6_method_7_code 13 = .ok (.iastore, 1) := by decide +kernel
theorem d_T_makeBroken_14 : decode prog_6_method_7_code 14 = .ok (.return_, 1) := by decide +kernel
theorem d_T_follow_0 : decode prog_6_method_8_code 0 = .ok (.aload_n 0, 1) := by decide +kernel
theorem d_T_follow_1 : decode prog_6_method_8_code 1 = .ok (.getfield 28, 3) := by decide +kernel
theorem d_T_follow_4 : decode prog_6_method_8_code 4 = .ok (.iload_n 1, 1) := by decide +kernel
theorem d_T_follow_5 : decode prog_6_method_8_code 5 = .ok (.aload_n 0, 1) := by decide +kernel
theorem d_T_follow_6 : decode prog_6_method_8_code 6 = .ok (.iload_n 2, 1) := by decide +kernel
theorem d_T_follow_7 : decode prog_6_method_8_code 7 = .ok (.invokevirtual 54, 3) := by decide +kernel
theorem d_T_follow_10 : decode prog_6_method_8_code 10 = .ok (.iastore, 1) := by decide +kernel
theorem d_T_follow_11 : decode prog_6_method_8_code 11 = .ok (.aload_n 0, 1) := by decide +kernel
theorem d_T_follow_12 : decode prog_6_method_8_code 12 = .ok (.getfield 32, 3) := by decide +kernel
theorem d_T_follow_15 : decode prog_6_method_8_code 15 = .ok (.iload_n 1, 1) := by decide +kernel
theorem d_T_follow_16 : decode prog_6_method_8_code 16 = .ok (.aload_n 0, 1) := by decide +kernel
theorem d_T_follow_17 : decode prog_6_method_8_code 17 = .ok (.iload_n 2, 1) := by decide +kernel
theorem d_T_follow_18 : decode prog_6_method_8_code 18 = .ok (.invokevirtual 58, 3) := by decide +kernel
theorem d_T_follow_21 : decode prog_6_method_8_code 21 = .ok (.iastore, 1) := by decide +kernel
theorem d_T_follow_22 : decode prog_6_method_8_code 22 = .ok (.return_, 1) := by decide +kernel
theorem d_T_end_0 : decode prog_6_method_9_code 0 = .ok (.aload_n 0, 1) := by decide +kernel
theorem d_T_end_1 : decode prog_6_method_9_code 1 = .ok (.aload_n 0, 1) := by decide +kernel
theorem d_T_end_2 : decode prog_6_method_9_code 2 = .ok (.iconst 0, 1) := by decide +kernel
theorem d_T_end_3 : decode prog_6_method_9_code 3 = .ok (.invokevirtual 54, 3) := by decide +kernel
theorem d_T_end_6 : decode prog_6_method_9_code 6 = .ok (.iconst 2, 1) := by decide +kernel
theorem d_T_end_7 : decode prog_6_method_9_code 7 = .ok (.if_icmp .ne 7, 3) := by decide +kernel
theorem d_T_end_10 : decode prog_6_method_9_code 10 = .ok (.iconst 2, 1) := by decide +kernel
theorem d_T_end_11 : decode prog_6_method_9_code 11 = .ok (.goto 4, 3) := by decide +kernel
theorem d_T_end_14 : decode prog_6_method_9_code 14 = .ok (.iconst 3, 1) := by decide +kernel
theorem d_T_end_15 : decode prog_6_method_9_code 15 = .ok (.putfield 9, 3) := by decide +kernel
theorem d_T_end_18 : decode prog_6_method_9_code 18 = .ok (.aload_n 0, 1) := by decide +kernel
theorem d_T_end_19 : decode prog_6_method_9_code 19 = .ok (.aload_n 0, 1) := by decide +kernel
theorem d_T_end_20 : decode prog_6_method_9_code 20 = .ok (.iconst 0, 1) := by decide +kernel
theorem d_T_end_21 : decode prog_6_method_9_code 21 = .ok (.invokevirtual 58, 3) := by decide +kernel
theorem d_T_end_24 : decode prog_6_method_9_code 24 = .ok (.putfield 15, 3) := by decide +kernel
theorem d_T_end_27 : decode prog_6_method_9_code 27 = .ok (.return_, 1) := by decide +kernel
theorem d_T_reaps_0 : decode prog_6_method_10_code 0 = .ok (.iconst 0, 1) := by decide +kernel
theorem d_T_reaps_1 : decode prog_6_method_10_code 1 = .ok (.istore_n 2, 1) := by decide +kernel
theorem d_T_reaps_2 : decode prog_6_method_10_code 2 = .ok (.iload_n 2, 1) := by decide +kernel
theorem d_T_reaps_3 : decode prog_6_method_10_code 3 = .ok (.aload_n 0, 1) := by decide +kernel
theorem d_T_reaps_4 : decode prog_6_method_10_code 4 = .ok (.getfield 44, 3) := by decide +kernel
theorem d_T_reaps_7 : decode prog_6_method_10_code 7 = .ok (.getfield 61, 3) := by decide +kernel
theorem d_T_reaps_10 : decode prog_6_method_10_code 10 = .ok (.if_icmp .ge 67, 3) := by decide +kernel
theorem d_T_reaps_13 : decode prog_6_method_10_code 13 = .ok (.aload_n 0, 1) := by decide +kernel
theorem d_T_reaps_14 : decode prog_6_method_10_code 14 = .ok (.getfield 44, 3) := by decide +kernel
theorem d_T_reaps_17 : decode prog_6_method_10_code 17 = .ok (.getfield 64, 3) := by decide +kernel
theorem d_T_reaps_20 : decode prog_6_method_10_code 20 = .ok (.iload_n 2, 1) := by decide +kernel
theorem d_T_reaps_21 : decode prog_6_method_10_code 21 = .ok (.iaload, 1) := by decide +kernel
theorem d_T_reaps_22 : decode prog_6_method_10_code 22 = .ok (.bipush 8, 2) := by decide +kernel
theorem d_T_reaps_24 : decode prog_6_method_10_code 24 = .ok (.if_icmp .ne 28, 3) := by decide +kernel
theorem d_T_reaps_27 : decode prog_6_method_10_code 27 = .ok (.aload_n 0, 1) := by decide +kernel
theorem d_T_reaps_28 : decode prog_6_method_10_code 28 = .ok (.getfield 28, 3) := by decide +kernel
theorem d_T_reaps_31 : decode prog_6_method_10_code 31 = .ok (.iload_n 2, 1) := by decide +kernel
theorem d_T_reaps_32 : decode prog_6_method_10_code 32 = .ok (.iaload, 1) := by decide +kernel
theorem d_T_reaps_33 : decode prog_6_method_10_code 33 = .ok (.iconst 1, 1) := by decide +kernel
theorem d_T_reaps_34 : decode prog_6_method_10_code 34 = .ok (.if_icmp .ne 18, 3) := by decide +kernel
theorem d_T_reaps_37 : decode prog_6_method_10_code 37 = .ok (.aload_n 0, 1) := by decide +kernel
theorem d_T_reaps_38 : decode prog_6_method_10_code 38 = .ok (.iload_n 2, 1) := by decide +kernel
theorem d_T_reaps_39 : decode prog_6_method_10_code 39 = .ok (.iconst 1, 1) := by decide +kernel
theorem d_T_reaps_40 : decode prog_6_method_10_code 40 = .ok (.iadd, 1) := by decide +kernel
theorem d_T_reaps_41 : decode prog_6_method_10_code 41 = .ok (.invokevirtual 54, 3) := by decide +kernel
theorem d_T_reaps_44 : decode prog_6_method_10_code 44 = .ok (.iconst 2, 1) := by decide +kernel
theorem d_T_reaps_45 : decode prog_6_method_10_code 45 = .ok (.if_icmp .ne 7, 3) := by decide +kernel
theorem d_T_reaps_48 : decode prog_6_method_10_code 48 = .ok (.iconst 1, 1) := by decide +kernel
theorem d_T_reaps_49 : decode prog_6_method_10_code 49 = .ok (.goto 4, 3) := by decide +kernel
theorem d_T_reaps_52 : decode prog_6_method_10_code 52 = .ok (.iconst 0, 1) := by decide +kernel
theorem d_T_reaps_53 : decode prog_6_method_10_code 53 = .ok (.istore_n 3, 1) := by decide +kernel
theorem d_T_reaps_54 : decode prog_6_method_10_code 54 = .ok (.iload_n 3, 1) := by decide +kernel
theorem d_T_reaps_55 : decode prog_6_method_10_code 55 = .ok (.ifCond .eq 16, 3) := by decide +kernel
theorem d_T_reaps_58 : decode prog_6_method_10_code 58 = .ok (.aload_n 0, 1) := by decide +kernel
theorem d_T_reaps_59 : decode prog_6_method_10_code 59 = .ok (.iload_n 2, 1) := by decide +kernel
theorem d_T_reaps_60 : decode prog_6_method_10_code 60 = .ok (.iconst 1, 1) := by decide +kernel
theorem d_T_reaps_61 : decode prog_6_method_10_code 61 = .ok (.iadd, 1) := by decide +kernel
theorem d_T_reaps_62 : decode prog_6_method_10_code 62 = .ok (.invokevirtual 58, 3) := by decide +kernel
theorem d_T_reaps_65 : decode prog_6_method_10_code 65 = .ok (.iload_n 1, 1) := by decide +kernel
theorem d_T_reaps_66 : decode prog_6_method_10_code 66 = .ok (.if_icmp .ne 5, 3) := by decide +kernel
theorem d_T_reaps_69 : decode prog_6_method_10_code 69 = .ok (.iconst 1, 1) := by decide +kernel
theorem d_T_reaps_70 : decode prog_6_method_10_code 70 = .ok (.ireturn, 1) := by decide +kernel
theorem d_T_reaps_71 : decode prog_6_method_10_code 71 = .ok (.iinc 2 1, 3) := by decide +kernel
theorem d_T_reaps_74 : decode prog_6_method_10_code 74 = .ok (.goto (-72), 3) := by decide +kernel
theorem d_T_reaps_77 : decode prog_6_method_10_code 77 = .ok (.iconst 0, 1) := by decide +kernel
theorem d_T_reaps_78 : decode prog_6_method_10_code 78 = .ok (.ireturn, 1) := by decide +kernel
theorem d_T_isDueAt_0 : decode prog_6_method_11_code 0 = .ok (.iconst 0, 1) := by decide +kernel
theorem d_T_isDueAt_1 : decode prog_6_method_11_code 1 = .ok (.istore_n 2, 1) := by decide +kernel
theorem d_T_isDueAt_2 : decode prog_6_method_11_code 2 = .ok (.iload_n 2, 1) := by decide +kernel
theorem d_T_isDueAt_3 : decode prog_6_method_11_code 3 = .ok (.aload_n 0, 1) := by decide +kernel
theorem d_T_isDueAt_4 : decode prog_6_method_11_code 4 = .ok (.getfield 44, 3) := by decide +kernel
theorem d_T_isDueAt_7 : decode prog_6_method_11_code 7 = .ok (.getfield 61, 3) := by decide +kernel
theorem d_T_isDueAt_10 : decode prog_6_method_11_code 10 = .ok (.if_icmp .ge 110, 3) := by decide +kernel
theorem d_T_isDueAt_13 : decode prog_6_method_11_code 13 = .ok (.aload_n 0, 1) := by decide +kernel
theorem d_T_isDueAt_14 : decode prog_6_method_11_code 14 = .ok (.getfield 44, 3) := by decide +kernel
theorem d_T_isDueAt_17 : decode prog_6_method_11_code 17 = .ok (.getfield 64, 3) := by decide +kernel
theorem d_T_isDueAt_20 : decode prog_6_method_11_code 20 = .ok (.iload_n 2, 1) := by decide +kernel
theorem d_T_isDueAt_21 : decode prog_6_method_11_code 21 = .ok (.iaload, 1) := by decide +kernel
theorem d_T_isDueAt_22 : decode prog_6_method_11_code 22 = .ok (.iconst 2, 1) := by decide +kernel
theorem d_T_isDueAt_23 : decode prog_6_method_11_code 23 = .ok (.if_icmp .eq 17, 3) := by decide +kernel
theorem d_T_isDueAt_26 : decode prog_6_method_11_code 26 = .ok (.aload_n 0, 1) := by decide +kernel
theorem d_T_isDueAt_27 : decode prog_6_method_11_code 27 = .ok (.getfield 44, 3) := by decide +kernel
theorem d_T_isDueAt_30 : decode prog_6_method_11_code 30 = .ok (.getfield 64, 3) := by decide +kernel
theorem d_T_isDueAt_33 : decode prog_6_method_11_code 33 = .ok (.iload_n 2, 1) := by decide +kernel
theorem d_T_isDueAt_34 : decode prog_6_method_11_code 34 = .ok (.iaload, 1) := by decide +kernel
theorem d_T_isDueAt_35 : decode prog_6_method_11_code 35 = .ok (.bipush 13, 2) := by decide +kernel
theorem d_T_isDueAt_37 : decode prog_6_method_11_code 37 = .ok (.if_icmp .ne 7, 3) := by decide +kernel
theorem d_T_isDueAt_40 : decode prog_6_method_11_code 40 = .ok (.iconst 1, 1) := by decide +kernel
theorem d_T_isDueAt_41 : decode prog_6_method_11_code 41 = .ok (.goto 4, 3) := by decide +kernel
theorem d_T_isDueAt_44 : decode prog_6_method_11_code 44 = .ok (.iconst 0, 1) := by decide +kernel
theorem d_T_isDueAt_45 : decode prog_6_method_11_code 45 = .ok (.istore_n 3, 1) := by decide +kernel
theorem d_T_isDueAt_46 : decode prog_6_method_11_code 46 = .ok (.aload_n 0, 1) := by decide +kernel
theorem d_T_isDueAt_47 : decode prog_6_method_11_code 47 = .ok (.getfield 35, 3) := by decide +kernel
theorem d_T_isDueAt_50 : decode prog_6_method_11_code 50 = .ok (.iload_n 2, 1) := by decide +kernel
theorem d_T_isDueAt_51 : decode prog_6_method_11_code 51 = .ok (.iaload, 1) := by decide +kernel
theorem d_T_isDueAt_52 : decode prog_6_method_11_code 52 = .ok (.iconst (-1), 1) := by decide +kernel
theorem d_T_isDueAt_53 : decode prog_6_method_11_code 53 = .ok (.if_icmp .eq 27, 3) := by decide +kernel
theorem d_T_isDueAt_56 : decode prog_6_method_11_code 56 = .ok (.aload_n 0, 1) := by decide +kernel
theorem d_T_isDueAt_57 : decode prog_6_method_11_code 57 = .ok (.getfield 28, 3) := by decide +kernel
theorem d_T_isDueAt_60 : decode prog_6_method_11_code 60 = .ok (.iload_n 2, 1) := by decide +kernel
theorem d_T_isDueAt_61 : decode prog_6_method_11_code 61 = .ok (.iaload, 1) := by decide +kernel
theorem d_T_isDueAt_62 : decode prog_6_method_11_code 62 = .ok (.iconst 2, 1) := by decide +kernel
theorem d_T_isDueAt_63 : decode prog_6_method_11_code 63 = .ok (.if_icmp .eq 17, 3) := by decide +kernel
theorem d_T_isDueAt_66 : decode prog_6_method_11_code 66 = .ok (.aload_n 0, 1) := by decide +kernel
theorem d_T_isDueAt_67 : decode prog_6_method_11_code 67 = .ok (.getfield 28, 3) := by decide +kernel
theorem d_T_isDueAt_70 : decode prog_6_method_11_code 70 = .ok (.iload_n 2, 1) := by decide +kernel
theorem d_T_isDueAt_71 : decode prog_6_method_11_code 71 = .ok (.iaload, 1) := by decide +kernel
theorem d_T_isDueAt_72 : decode prog_6_method_11_code 72 = .ok (.iconst 4, 1) := by decide +kernel
theorem d_T_isDueAt_73 : decode prog_6_method_11_code 73 = .ok (.if_icmp .eq 7, 3) := by decide +kernel
theorem d_T_isDueAt_76 : decode prog_6_method_11_code 76 = .ok (.iconst 1, 1) := by decide +kernel
theorem d_T_isDueAt_77 : decode prog_6_method_11_code 77 = .ok (.goto 4, 3) := by decide +kernel
theorem d_T_isDueAt_80 : decode prog_6_method_11_code 80 = .ok (.iconst 0, 1) := by decide +kernel
theorem d_T_isDueAt_81 : decode prog_6_method_11_code 81 = .ok (.istore 4, 2) := by decide +kernel
theorem d_T_isDueAt_83 : decode prog_6_method_11_code 83 = .ok (.iload_n 3, 1) := by decide +kernel
theorem d_T_isDueAt_84 : decode prog_6_method_11_code 84 = .ok (.ifCond .eq 30, 3) := by decide +kernel
theorem d_T_isDueAt_87 : decode prog_6_method_11_code 87 = .ok (.iload 4, 2) := by decide +kernel
theorem d_T_isDueAt_89 : decode prog_6_method_11_code 89 = .ok (.ifCond .eq 25, 3) := by decide +kernel
theorem d_T_isDueAt_92 : decode prog_6_method_11_code 92 = .ok (.iload_n 1, 1) := by decide +kernel
theorem d_T_isDueAt_93 : decode prog_6_method_11_code 93 = .ok (.aload_n 0, 1) := by decide +kernel
theorem d_T_isDueAt_94 : decode prog_6_method_11_code 94 = .ok (.getfield 35, 3) := by decide +kernel
theorem d_T_isDueAt_97 : decode prog_6_method_11_code 97 = .ok (.iload_n 2, 1) := by decide +kernel
theorem d_T_isDueAt_98 : decode prog_6_method_11_code 98 = .ok (.iaload, 1) := by decide +kernel
theorem d_T_isDueAt_99 : decode prog_6_method_11_code 99 = .ok (.isub, 1) := by decide +kernel
theorem d_T_isDueAt_100 : decode prog_6_method_11_code 100 = .ok (.aload_n 0, 1) := by decide +kernel
theorem d_T_isDueAt_101 : decode prog_6_method_11_code 101 = .ok (.getfield 44, 3) := by decide +kernel
theorem d_T_isDueAt_104 : decode prog_6_method_11_code 104 = .ok (.getfield 67, 3) := by decide +kernel
theorem d_T_isDueAt_107 : decode prog_6_method_11_code 107 = .ok (.iload_n 2, 1) := by decide +kernel
theorem d_T_isDueAt_108 : decode prog_6_method_11_code 108 = .ok (.iaload, 1) := by decide +kernel
theorem d_T_isDueAt_109 : decode prog_6_method_11_code 109 = .ok (.if_icmp .ne 5, 3) := by decide +kernel
theorem d_T_isDueAt_112 : decode prog_6_method_11_code 112 = .ok (.iconst 1, 1) := by decide +kernel
theorem d_T_isDueAt_113 : decode prog_6_method_11_code 113 = .ok (.ireturn, 1) := by decide +kernel
theorem d_T_isDueAt_114 : decode prog_6_method_11_code 114 = .ok (.iinc 2 1, 3) := by decide +kernel
theorem d_T_isDueAt_117 : decode prog_6_method_11_code 117 = .ok (.goto (-115), 3) := by decide +kernel
theorem d_T_isDueAt_120 : decode prog_6_method_11_code 120 = .ok (.iconst 0, 1) := by decide +kernel
theorem d_T_isDueAt_121 : decode prog_6_method_11_code 121 = .ok (.ireturn, 1) := by decide +kernel
theorem d_K_init_0 : decode prog_7_method_1_code 0 = .ok (.aload_n 0, 1) := by decide +kernel
theorem d_K_init_1 : decode prog_7_method_1_code 1 = .ok (.invokespecial 3, 3) := by decide +kernel
theorem d_K_init_4 : decode prog_7_method_1_code 4 = .ok (.aload_n 0, 1) := by decide +kernel
theorem d_K_init_5 : decode prog_7_method_1_code 5 = .ok (.new 9, 3) := by decide +kernel
theorem d_K_init_8 : decode prog_7_method_1_code 8 = .ok (.dup, 1) := by decide +kernel
theorem d_K_init_9 : decode prog_7_method_1_code 9 = .ok (.iconst 4, 1) := by decide +kernel
theorem d_K_init_10 : decode prog_7_method_1_code 10 = .ok (.invokespecial 11, 3) := by decide +kernel
theorem d_K_init_13 : decode prog_7_method_1_code 13 = .ok (.putfield 14, 3) := by decide +kernel
theorem d_K_init_16 : decode prog_7_method_1_code 16 = .ok (.aload_n 0, 1) := by decide +kernel
theorem d_K_init_17 : decode prog_7_method_1_code 17 = .ok (.iconst (-1), 1) := by decide +kernel
theorem d_K_init_18 : decode prog_7_method_1_code 18 = .ok (.putfield 20, 3) := by decide +kernel
theorem d_K_init_21 : decode prog_7_method_1_code 21 = .ok (.aload_n 0, 1) := by decide +kernel
theorem d_K_init_22 : decode prog_7_method_1_code 22 = .ok (.iconst 0, 1) := by decide +kernel
theorem d_K_init_23 : decode prog_7_method_1_code 23 = .ok (.putfield 24, 3) := by decide +kernel
theorem d_K_init_26 : decode prog_7_method_1_code 26 = .ok (.aload_n 0, 1) := by decide +kernel
theorem d_K_init_27 : decode prog_7_method_1_code 27 = .ok (.iconst 0, 1) := by decide +kernel
theorem d_K_init_28 : decode prog_7_method_1_code 28 = .ok (.putfield 27, 3) := by decide +kernel
theorem d_K_init_31 : decode prog_7_method_1_code 31 = .ok (.aload_n 0, 1) := by decide +kernel
theorem d_K_init_32 : decode prog_7_method_1_code 32 = .ok (.iload_n 1, 1) := by decide +kernel
theorem d_K_init_33 : decode prog_7_method_1_code 33 = .ok (.putfield 30, 3) := by decide +kernel
theorem d_K_init_36 : decode prog_7_method_1_code 36 = .ok (.return_, 1) := by decide +kernel
theorem d_K_emptySlot_0 : decode prog_7_method_2_code 0 = .ok (.aload_n 0, 1) := by decide +kernel
theorem d_K_emptySlot_1 : decode prog_7_method_2_code 1 = .ok (.getfield 20, 3) := by decide +kernel
theorem d_K_emptySlot_4 : decode prog_7_method_2_code 4 = .ok (.istore_n 1, 1) := by decide +kernel
theorem d_K_emptySlot_5 : decode prog_7_method_2_code 5 = .ok (.aload_n 0, 1) := by decide +kernel
theorem d_K_emptySlot_6 : decode prog_7_method_2_code 6 = .ok (.iconst (-1), 1) := by decide +kernel
theorem d_K_emptySlot_7 : decode prog_7_method_2_code 7 = .ok (.putfield 20, 3) := by decide +kernel
theorem d_K_emptySlot_10 : decode prog_7_method_2_code 10 = .ok (.iload_n 1, 1) := by decide +kernel
theorem d_K_emptySlot_11 : decode prog_7_method_2_code 11 = .ok (.ireturn, 1) := by decide +kernel
