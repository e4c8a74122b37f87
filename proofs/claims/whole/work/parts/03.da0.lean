theorem dX0_init_0 : decode cX0_init 0 = .ok (.aload_n 0, 1) := by decide +kernel
theorem dX0_init_1 : decode cX0_init 1 = .ok (.invokespecial 3, 3) := by decide +kernel
theorem dX0_init_4 : decode cX0_init 4 = .ok (.aload_n 0, 1) := by decide +kernel
theorem dX0_init_5 : decode cX0_init 5 = .ok (.iconst 2, 1) := by decide +kernel
theorem dX0_init_6 : decode cX0_init 6 = .ok (.putfield 9, 3) := by decide +kernel
theorem dX0_init_9 : decode cX0_init 9 = .ok (.aload_n 0, 1) := by decide +kernel
theorem dX0_init_10 : decode cX0_init 10 = .ok (.iconst 1, 1) := by decide +kernel
theorem dX0_init_11 : decode cX0_init 11 = .ok (.putfield 15, 3) := by decide +kernel
theorem dX0_init_14 : decode cX0_init 14 = .ok (.return_, 1) := by decide +kernel
theorem dX0_left_0 : decode cX0_left 0 = .ok (.aload_n 0, 1) := by decide +kernel
theorem dX0_left_1 : decode cX0_left 1 = .ok (.getfield 9, 3) := by decide +kernel
theorem dX0_left_4 : decode cX0_left 4 = .ok (.iconst 2, 1) := by decide +kernel
theorem dX0_left_5 : decode cX0_left 5 = .ok (.if_icmp .ge 7, 3) := by decide +kernel
theorem dX0_left_8 : decode cX0_left 8 = .ok (.iconst 0, 1) := by decide +kernel
theorem dX0_left_9 : decode cX0_left 9 = .ok (.goto 11, 3) := by decide +kernel
theorem dX0_left_12 : decode cX0_left 12 = .ok (.iload_n 1, 1) := by decide +kernel
theorem dX0_left_13 : decode cX0_left 13 = .ok (.aload_n 0, 1) := by decide +kernel
theorem dX0_left_14 : decode cX0_left 14 = .ok (.getfield 9, 3) := by decide +kernel
theorem dX0_left_17 : decode cX0_left 17 = .ok (.invokestatic 18, 3) := by decide +kernel
theorem dX0_left_20 : decode cX0_left 20 = .ok (.ireturn, 1) := by decide +kernel
theorem dX0_cut_0 : decode cX0_cut 0 = .ok (.aload_n 0, 1) := by decide +kernel
theorem dX0_cut_1 : decode cX0_cut 1 = .ok (.getfield 9, 3) := by decide +kernel
theorem dX0_cut_4 : decode cX0_cut 4 = .ok (.iconst 2, 1) := by decide +kernel
theorem dX0_cut_5 : decode cX0_cut 5 = .ok (.if_icmp .ge 7, 3) := by decide +kernel
theorem dX0_cut_8 : decode cX0_cut 8 = .ok (.iconst 0, 1) := by decide +kernel
theorem dX0_cut_9 : decode cX0_cut 9 = .ok (.goto 9, 3) := by decide +kernel
theorem dX0_cut_12 : decode cX0_cut 12 = .ok (.iload_n 1, 1) := by decide +kernel
theorem dX0_cut_13 : decode cX0_cut 13 = .ok (.aload_n 0, 1) := by decide +kernel
theorem dX0_cut_14 : decode cX0_cut 14 = .ok (.getfield 9, 3) := by decide +kernel
theorem dX0_cut_17 : decode cX0_cut 17 = .ok (.idiv, 1) := by decide +kernel
theorem dX0_cut_18 : decode cX0_cut 18 = .ok (.ireturn, 1) := by decide +kernel
theorem dX0_inverse_0 : decode cX0_inverse 0 = .ok (.iconst 1, 1) := by decide +kernel
theorem dX0_inverse_1 : decode cX0_inverse 1 = .ok (.istore_n 2, 1) := by decide +kernel
theorem dX0_inverse_2 : decode cX0_inverse 2 = .ok (.iload_n 2, 1) := by decide +kernel
theorem dX0_inverse_3 : decode cX0_inverse 3 = .ok (.aload_n 0, 1) := by decide +kernel
theorem dX0_inverse_4 : decode cX0_inverse 4 = .ok (.getfield 9, 3) := by decide +kernel
theorem dX0_inverse_7 : decode cX0_inverse 7 = .ok (.if_icmp .ge 22, 3) := by decide +kernel
theorem dX0_inverse_10 : decode cX0_inverse 10 = .ok (.aload_n 0, 1) := by decide +kernel
theorem dX0_inverse_11 : decode cX0_inverse 11 = .ok (.iload_n 2, 1) := by decide +kernel
theorem dX0_inverse_12 : decode cX0_inverse 12 = .ok (.iload_n 1, 1) := by decide +kernel
theorem dX0_inverse_13 : decode cX0_inverse 13 = .ok (.imul, 1) := by decide +kernel
theorem dX0_inverse_14 : decode cX0_inverse 14 = .ok (.invokevirtual 24, 3) := by decide +kernel
theorem dX0_inverse_17 : decode cX0_inverse 17 = .ok (.iconst 1, 1) := by decide +kernel
theorem dX0_inverse_18 : decode cX0_inverse 18 = .ok (.if_icmp .ne 5, 3) := by decide +kernel
theorem dX0_inverse_21 : decode cX0_inverse 21 = .ok (.iload_n 2, 1) := by decide +kernel
theorem dX0_inverse_22 : decode cX0_inverse 22 = .ok (.ireturn, 1) := by decide +kernel
theorem dX0_inverse_23 : decode cX0_inverse 23 = .ok (.iinc 2 1, 3) := by decide +kernel
theorem dX0_inverse_26 : decode cX0_inverse 26 = .ok (.goto (-24), 3) := by decide +kernel
theorem dX0_inverse_29 : decode cX0_inverse 29 = .ok (.iconst 0, 1) := by decide +kernel
theorem dX0_inverse_30 : decode cX0_inverse 30 = .ok (.ireturn, 1) := by decide +kernel
theorem dX0_nextDrawn_0 : decode cX0_nextDrawn 0 = .ok (.aload_n 0, 1) := by decide +kernel
theorem dX0_nextDrawn_1 : decode cX0_nextDrawn 1 = .ok (.ldc 28, 2) := by decide +kernel
theorem dX0_nextDrawn_3 : decode cX0_nextDrawn 3 = .ok (.aload_n 0, 1) := by decide +kernel
theorem dX0_nextDrawn_4 : decode cX0_nextDrawn 4 = .ok (.getfield 15, 3) := by decide +kernel
theorem dX0_nextDrawn_7 : decode cX0_nextDrawn 7 = .ok (.imul, 1) := by decide +kernel
theorem dX0_nextDrawn_8 : decode cX0_nextDrawn 8 = .ok (.sipush 12345, 3) := by decide +kernel
theorem dX0_nextDrawn_11 : decode cX0_nextDrawn 11 = .ok (.iadd, 1) := by decide +kernel
theorem dX0_nextDrawn_12 : decode cX0_nextDrawn 12 = .ok (.putfield 15, 3) := by decide +kernel
theorem dX0_nextDrawn_15 : decode cX0_nextDrawn 15 = .ok (.aload_n 0, 1) := by decide +kernel
theorem dX0_nextDrawn_16 : decode cX0_nextDrawn 16 = .ok (.getfield 15, 3) := by decide +kernel
theorem dX0_nextDrawn_19 : decode cX0_nextDrawn 19 = .ok (.bipush 16, 2) := by decide +kernel
theorem dX0_nextDrawn_21 : decode cX0_nextDrawn 21 = .ok (.iushr, 1) := by decide +kernel
theorem dX0_nextDrawn_22 : decode cX0_nextDrawn 22 = .ok (.sipush 16807, 3) := by decide +kernel
theorem dX0_nextDrawn_25 : decode cX0_nextDrawn 25 = .ok (.irem, 1) := by decide +kernel
theorem dX0_nextDrawn_26 : decode cX0_nextDrawn 26 = .ok (.ireturn, 1) := by decide +kernel
theorem dX1_init_0 : decode cX1_init 0 = .ok (.aload_n 0, 1) := by decide +kernel
theorem dX1_init_1 : decode cX1_init 1 = .ok (.invokespecial 3, 3) := by decide +kernel
theorem dX1_init_4 : decode cX1_init 4 = .ok (.aload_n 0, 1) := by decide +kernel
theorem dX1_init_5 : decode cX1_init 5 = .ok (.iconst 4, 1) := by decide +kernel
theorem dX1_init_6 : decode cX1_init 6 = .ok (.anewarray 9, 3) := by decide +kernel
theorem dX1_init_9 : decode cX1_init 9 = .ok (.putfield 11, 3) := by decide +kernel
theorem dX1_init_12 : decode cX1_init 12 = .ok (.iconst 0, 1) := by decide +kernel
theorem dX1_init_13 : decode cX1_init 13 = .ok (.istore_n 1, 1) := by decide +kernel
theorem dX1_init_14 : decode cX1_init 14 = .ok (.iload_n 1, 1) := by decide +kernel
theorem dX1_init_15 : decode cX1_init 15 = .ok (.iconst 4, 1) := by decide +kernel
theorem dX1_init_16 : decode cX1_init 16 = .ok (.if_icmp .ge 22, 3) := by decide +kernel
theorem dX1_init_19 : decode cX1_init 19 = .ok (.aload_n 0, 1) := by decide +kernel
theorem dX1_init_20 : decode cX1_init 20 = .ok (.getfield 11, 3) := by decide +kernel
theorem dX1_init_23 : decode cX1_init 23 = .ok (.iload_n 1, 1) := by decide +kernel
theorem dX1_init_24 : decode cX1_init 24 = .ok (.new 9, 3) := by decide +kernel
theorem dX1_init_27 : decode cX1_init 27 = .ok (.dup, 1) := by decide +kernel
theorem dX1_init_28 : decode cX1_init 28 = .ok (.invokespecial 17, 3) := by decide +kernel
theorem dX1_init_31 : decode cX1_init 31 = .ok (.aastore, 1) := by decide +kernel
theorem dX1_init_32 : decode cX1_init 32 = .ok (.iinc 1 1, 3) := by decide +kernel
theorem dX1_init_35 : decode cX1_init 35 = .ok (.goto (-21), 3) := by decide +kernel
theorem dX1_init_38 : decode cX1_init 38 = .ok (.return_, 1) := by decide +kernel
theorem dX1_renew_0 : decode cX1_renew 0 = .ok (.aload_n 0, 1) := by decide +kernel
theorem dX1_renew_1 : decode cX1_renew 1 = .ok (.iload_n 1, 1) := by decide +kernel
theorem dX1_renew_2 : decode cX1_renew 2 = .ok (.putfield 18, 3) := by decide +kernel
theorem dX1_renew_5 : decode cX1_renew 5 = .ok (.aload_n 0, 1) := by decide +kernel
theorem dX1_renew_6 : decode cX1_renew 6 = .ok (.iload_n 2, 1) := by decide +kernel
theorem dX1_renew_7 : decode cX1_renew 7 = .ok (.putfield 22, 3) := by decide +kernel
theorem dX1_renew_10 : decode cX1_renew 10 = .ok (.iconst 0, 1) := by decide +kernel
theorem dX1_renew_11 : decode cX1_renew 11 = .ok (.istore_n 3, 1) := by decide +kernel
theorem dX1_renew_12 : decode cX1_renew 12 = .ok (.iload_n 3, 1) := by decide +kernel
theorem dX1_renew_13 : decode cX1_renew 13 = .ok (.iconst 4, 1) := by decide +kernel
theorem dX1_renew_14 : decode cX1_renew 14 = .ok (.if_icmp .ge 18, 3) := by decide +kernel
theorem dX1_renew_17 : decode cX1_renew 17 = .ok (.aload_n 0, 1) := by decide +kernel
theorem dX1_renew_18 : decode cX1_renew 18 = .ok (.getfield 11, 3) := by decide +kernel
theorem dX1_renew_21 : decode cX1_renew 21 = .ok (.iload_n 3, 1) := by decide +kernel
theorem dX1_renew_22 : decode cX1_renew 22 = .ok (.aaload, 1) := by decide +kernel
theorem dX1_renew_23 : decode cX1_renew 23 = .ok (.invokevirtual 25, 3) := by decide +kernel
theorem dX1_renew_26 : decode cX1_renew 26 = .ok (.iinc 3 1, 3) := by decide +kernel
theorem dX1_renew_29 : decode cX1_renew 29 = .ok (.goto (-17), 3) := by decide +kernel
theorem dX1_renew_32 : decode cX1_renew 32 = .ok (.return_, 1) := by decide +kernel
theorem dX1_isDone_0 : decode cX1_isDone 0 = .ok (.iconst 0, 1) := by decide +kernel
theorem dX1_isDone_1 : decode cX1_isDone 1 = .ok (.istore_n 1, 1) := by decide +kernel
theorem dX1_isDone_2 : decode cX1_isDone 2 = .ok (.iload_n 1, 1) := by decide +kernel
theorem dX1_isDone_3 : decode cX1_isDone 3 = .ok (.iconst 4, 1) := by decide +kernel
theorem dX1_isDone_4 : decode cX1_isDone 4 = .ok (.if_icmp .ge 27, 3) := by decide +kernel
theorem dX1_isDone_7 : decode cX1_isDone 7 = .ok (.aload_n 0, 1) := by decide +kernel
theorem dX1_isDone_8 : decode cX1_isDone 8 = .ok (.getfield 11, 3) := by decide +kernel
theorem dX1_isDone_11 : decode cX1_isDone 11 = .ok (.iload_n 1, 1) := by decide +kernel
theorem dX1_isDone_12 : decode cX1_isDone 12 = .ok (.aaload, 1) := by decide +kernel
theorem dX1_isDone_13 : decode cX1_isDone 13 = .ok (.invokevirtual 28, 3) := by decide +kernel
theorem dX1_isDone_16 : decode cX1_isDone 16 = .ok (.aload_n 0, 1) := by decide +kernel
theorem dX1_isDone_17 : decode cX1_isDone 17 = .ok (.getfield 22, 3) := by decide +kernel
theorem dX1_isDone_20 : decode cX1_isDone 20 = .ok (.if_icmp .ge 5, 3) := by decide +kernel
theorem dX1_isDone_23 : decode cX1_isDone 23 = .ok (.iconst 0, 1) := by decide +kernel
theorem dX1_isDone_24 : decode cX1_isDone 24 = .ok (.ireturn, 1) := by decide +kernel
theorem dX1_isDone_25 : decode cX1_isDone 25 = .ok (.iinc 1 1, 3) := by decide +kernel
theorem dX1_isDone_28 : decode cX1_isDone 28 = .ok (.goto (-26), 3) := by decide +kernel
theorem dX1_isDone_31 : decode cX1_isDone 31 = .ok (.iconst 1, 1) := by decide +kernel
theorem dX1_isDone_32 : decode cX1_isDone 32 = .ok (.ireturn, 1) := by decide +kernel
theorem dX2_init_0 : decode cX2_init 0 = .ok (.aload_n 0, 1) := by decide +kernel
theorem dX2_init_1 : decode cX2_init 1 = .ok (.invokespecial 3, 3) := by decide +kernel
theorem dX2_init_4 : decode cX2_init 4 = .ok (.aload_n 0, 1) := by decide +kernel
theorem dX2_init_5 : decode cX2_init 5 = .ok (.iconst 3, 1) := by decide +kernel
theorem dX2_init_6 : decode cX2_init 6 = .ok (.anewarray 9, 3) := by decide +kernel
theorem dX2_init_9 : decode cX2_init 9 = .ok (.putfield 11, 3) := by decide +kernel
theorem dX2_init_12 : decode cX2_init 12 = .ok (.aload_n 0, 1) := by decide +kernel
theorem dX2_init_13 : decode cX2_init 13 = .ok (.bipush 8, 2) := by decide +kernel
theorem dX2_init_15 : decode cX2_init 15 = .ok (.newarray .int, 2) := by decide +kernel
theorem dX2_init_17 : decode cX2_init 17 = .ok (.putfield 17, 3) := by decide +kernel
theorem dX2_init_20 : decode cX2_init 20 = .ok (.aload_n 0, 1) := by decide +kernel
theorem dX2_init_21 : decode cX2_init 21 = .ok (.iconst 4, 1) := by decide +kernel
theorem dX2_init_22 : decode cX2_init 22 = .ok (.newarray .boolean, 2) := by decide +kernel
theorem dX2_init_24 : decode cX2_init 24 = .ok (.putfield 21, 3) := by decide +kernel
theorem dX2_init_27 : decode cX2_init 27 = .ok (.aload_n 0, 1) := by decide +kernel
theorem dX2_init_28 : decode cX2_init 28 = .ok (.aload_n 1, 1) := by decide +kernel
theorem dX2_init_29 : decode cX2_init 29 = .ok (.putfield 25, 3) := by decide +kernel
theorem dX2_init_32 : decode cX2_init 32 = .ok (.iconst 0, 1) := by decide +kernel
theorem dX2_init_33 : decode cX2_init 33 = .ok (.istore_n 2, 1) := by decide +kernel
theorem dX2_init_34 : decode cX2_init 34 = .ok (.iload_n 2, 1) := by decide +kernel
theorem dX2_init_35 : decode cX2_init 35 = .ok (.iconst 3, 1) := by decide +kernel
theorem dX2_init_36 : decode cX2_init 36 = .ok (.if_icmp .ge 22, 3) := by decide +kernel
theorem dX2_init_39 : decode cX2_init 39 = .ok (.aload_n 0, 1) := by decide +kernel
theorem dX2_init_40 : decode cX2_init 40 = .ok (.getfield 11, 3) := by decide +kernel
theorem dX2_init_43 : decode cX2_init 43 = .ok (.iload_n 2, 1) := by decide +kernel
theorem dX2_init_44 : decode cX2_init 44 = .ok (.new 9, 3) := by decide +kernel
theorem dX2_init_47 : decode cX2_init 47 = .ok (.dup, 1) := by decide +kernel
theorem dX2_init_48 : decode cX2_init 48 = .ok (.invokespecial 29, 3) := by decide +kernel
theorem dX2_init_51 : decode cX2_init 51 = .ok (.aastore, 1) := by decide +kernel
theorem dX2_init_52 : decode cX2_init 52 = .ok (.iinc 2 1, 3) := by decide +kernel
theorem dX2_init_55 : decode cX2_init 55 = .ok (.goto (-21), 3) := by decide +kernel
theorem dX2_init_58 : decode cX2_init 58 = .ok (.return_, 1) := by decide +kernel
theorem dX2_forget_0 : decode cX2_forget 0 = .ok (.aload_n 0, 1) := by decide +kernel
theorem dX2_forget_1 : decode cX2_forget 1 = .ok (.iconst 0, 1) := by decide +kernel
theorem dX2_forget_2 : decode cX2_forget 2 = .ok (.putfield 30, 3) := by decide +kernel
theorem dX2_forget_5 : decode cX2_forget 5 = .ok (.aload_n 0, 1) := by decide +kernel
theorem dX2_forget_6 : decode cX2_forget 6 = .ok (.iconst 0, 1) := by decide +kernel
theorem dX2_forget_7 : decode cX2_forget 7 = .ok (.putfield 34, 3) := by decide +kernel
theorem dX2_forget_10 : decode cX2_forget 10 = .ok (.return_, 1) := by decide +kernel
theorem dX2_find_0 : decode cX2_find 0 = .ok (.iconst 0, 1) := by decide +kernel
theorem dX2_find_1 : decode cX2_find 1 = .ok (.istore_n 2, 1) := by decide +kernel
theorem dX2_find_2 : decode cX2_find 2 = .ok (.iload_n 2, 1) := by decide +kernel
theorem dX2_find_3 : decode cX2_find 3 = .ok (.aload_n 0, 1) := by decide +kernel
theorem dX2_find_4 : decode cX2_find 4 = .ok (.getfield 30, 3) := by decide +kernel
theorem dX2_find_7 : decode cX2_find 7 = .ok (.if_icmp .ge 29, 3) := by decide +kernel
theorem dX2_find_10 : decode cX2_find 10 = .ok (.aload_n 0, 1) := by decide +kernel
theorem dX2_find_11 : decode cX2_find 11 = .ok (.getfield 11, 3) := by decide +kernel
theorem dX2_find_14 : decode cX2_find 14 = .ok (.iload_n 2, 1) := by decide +kernel
theorem dX2_find_15 : decode cX2_find 15 = .ok (.aaload, 1) := by decide +kernel
theorem dX2_find_16 : decode cX2_find 16 = .ok (.getfield 37, 3) := by decide +kernel
theorem dX2_find_19 : decode cX2_find 19 = .ok (.iload_n 1, 1) := by decide +kernel
theorem dX2_find_20 : decode cX2_find 20 = .ok (.if_icmp .ne 10, 3) := by decide +kernel
theorem dX2_find_23 : decode cX2_find 23 = .ok (.aload_n 0, 1) := by decide +kernel
theorem dX2_find_24 : decode cX2_find 24 = .ok (.getfield 11, 3) := by decide +kernel
theorem dX2_find_27 : decode cX2_find 27 = .ok (.iload_n 2, 1) := by decide +kernel
theorem dX2_find_28 : decode cX2_find 28 = .ok (.aaload, 1) := by decide +kernel
theorem dX2_find_29 : decode cX2_find 29 = .ok (.areturn, 1) := by decide +kernel
theorem dX2_find_30 : decode cX2_find 30 = .ok (.iinc 2 1, 3) := by decide +kernel
theorem dX2_find_33 : decode cX2_find 33 = .ok (.goto (-31), 3) := by decide +kernel
theorem dX2_find_36 : decode cX2_find 36 = .ok (.aconst_null, 1) := by decide +kernel
theorem dX2_find_37 : decode cX2_find 37 = .ok (.areturn, 1) := by decide +kernel
theorem dX2_nodeOf_0 : decode cX2_nodeOf 0 = .ok (.aload_n 0, 1) := by decide +kernel
theorem dX2_nodeOf_1 : decode cX2_nodeOf 1 = .ok (.iload_n 1, 1) := by decide +kernel
theorem dX2_nodeOf_2 : decode cX2_nodeOf 2 = .ok (.invokevirtual 40, 3) := by decide +kernel
theorem dX2_nodeOf_5 : decode cX2_nodeOf 5 = .ok (.astore_n 3, 1) := by decide +kernel
theorem dX2_nodeOf_6 : decode cX2_nodeOf 6 = .ok (.aload_n 3, 1) := by decide +kernel
theorem dX2_nodeOf_7 : decode cX2_nodeOf 7 = .ok (.ifnull 12, 3) := by decide +kernel
theorem dX2_nodeOf_10 : decode cX2_nodeOf 10 = .ok (.iload_n 2, 1) := by decide +kernel
theorem dX2_nodeOf_11 : decode cX2_nodeOf 11 = .ok (.ifCond .lt 8, 3) := by decide +kernel
theorem dX2_nodeOf_14 : decode cX2_nodeOf 14 = .ok (.iload_n 2, 1) := by decide +kernel
theorem dX2_nodeOf_15 : decode cX2_nodeOf 15 = .ok (.iconst 4, 1) := by decide +kernel
theorem dX2_nodeOf_16 : decode cX2_nodeOf 16 = .ok (.if_icmp .lt 7, 3) := by decide +kernel
theorem dX2_nodeOf_19 : decode cX2_nodeOf 19 = .ok (.aconst_null, 1) := by decide +kernel
theorem dX2_nodeOf_20 : decode cX2_nodeOf 20 = .ok (.goto 9, 3) := by decide +kernel
theorem dX2_nodeOf_23 : decode cX2_nodeOf 23 = .ok (.aload_n 3, 1) := by decide +kernel
theorem dX2_nodeOf_24 : decode cX2_nodeOf 24 = .ok (.getfield 44, 3) := by decide +kernel
theorem dX2_nodeOf_27 : decode cX2_nodeOf 27 = .ok (.iload_n 2, 1) := by decide +kernel
theorem dX2_nodeOf_28 : decode cX2_nodeOf 28 = .ok (.aaload, 1) := by decide +kernel
theorem dX2_nodeOf_29 : decode cX2_nodeOf 29 = .ok (.areturn, 1) := by decide +kernel
theorem dX2_begin_0 : decode cX2_begin 0 = .ok (.aload_n 0, 1) := by decide +kernel
theorem dX2_begin_1 : decode cX2_begin 1 = .ok (.getfield 30, 3) := by decide +kernel
theorem dX2_begin_4 : decode cX2_begin 4 = .ok (.iconst 3, 1) := by decide +kernel
theorem dX2_begin_5 : decode cX2_begin 5 = .ok (.if_icmp .lt 6, 3) := by decide +kernel
theorem dX2_begin_8 : decode cX2_begin 8 = .ok (.bipush (-4), 2) := by decide +kernel
theorem dX2_begin_10 : decode cX2_begin 10 = .ok (.ireturn, 1) := by decide +kernel
theorem dX2_begin_11 : decode cX2_begin 11 = .ok (.aload_n 0, 1) := by decide +kernel
theorem dX2_begin_12 : decode cX2_begin 12 = .ok (.getfield 11, 3) := by decide +kernel
theorem dX2_begin_15 : decode cX2_begin 15 = .ok (.aload_n 0, 1) := by decide +kernel
theorem dX2_begin_16 : decode cX2_begin 16 = .ok (.getfield 30, 3) := by decide +kernel
theorem dX2_begin_19 : decode cX2_begin 19 = .ok (.aaload, 1) := by decide +kernel
theorem dX2_begin_20 : decode cX2_begin 20 = .ok (.astore_n 3, 1) := by decide +kernel
theorem dX2_begin_21 : decode cX2_begin 21 = .ok (.aload_n 3, 1) := by decide +kernel
theorem dX2_begin_22 : decode cX2_begin 22 = .ok (.aload_n 0, 1) := by decide +kernel
theorem dX2_begin_23 : decode cX2_begin 23 = .ok (.getfield 34, 3) := by decide +kernel
theorem dX2_begin_26 : decode cX2_begin 26 = .ok (.iload_n 1, 1) := by decide +kernel
theorem dX2_begin_27 : decode cX2_begin 27 = .ok (.invokevirtual 48, 3) := by decide +kernel
theorem dX2_begin_30 : decode cX2_begin 30 = .ok (.iconst 0, 1) := by decide +kernel
theorem dX2_begin_31 : decode cX2_begin 31 = .ok (.istore 4, 2) := by decide +kernel
theorem dX2_begin_33 : decode cX2_begin 33 = .ok (.iload 4, 2) := by decide +kernel
theorem dX2_begin_35 : decode cX2_begin 35 = .ok (.iload_n 1, 1) := by decide +kernel
theorem dX2_begin_36 : decode cX2_begin 36 = .ok (.if_icmp .ge 34, 3) := by decide +kernel
theorem dX2_begin_39 : decode cX2_begin 39 = .ok (.aload_n 0, 1) := by decide +kernel
theorem dX2_begin_40 : decode cX2_begin 40 = .ok (.iload 4, 2) := by decide +kernel
theorem dX2_begin_42 : decode cX2_begin 42 = .ok (.iload_n 2, 1) := by decide +kernel
theorem dX2_begin_43 : decode cX2_begin 43 = .ok (.invokevirtual 52, 3) := by decide +kernel
theorem dX2_begin_46 : decode cX2_begin 46 = .ok (.aload_n 3, 1) := by decide +kernel
theorem dX2_begin_47 : decode cX2_begin 47 = .ok (.getfield 44, 3) := by decide +kernel
theorem dX2_begin_50 : decode cX2_begin 50 = .ok (.iconst 0, 1) := by decide +kernel
theorem dX2_begin_51 : decode cX2_begin 51 = .ok (.aaload, 1) := by decide +kernel
theorem dX2_begin_52 : decode cX2_begin 52 = .ok (.aload_n 0, 1) := by decide +kernel
theorem dX2_begin_53 : decode cX2_begin 53 = .ok (.getfield 17, 3) := by decide +kernel
theorem dX2_begin_56 : decode cX2_begin 56 = .ok (.aload_n 0, 1) := by decide +kernel
theorem dX2_begin_57 : decode cX2_begin 57 = .ok (.getfield 25, 3) := by decide +kernel
theorem dX2_begin_60 : decode cX2_begin 60 = .ok (.invokevirtual 55, 3) := by decide +kernel
theorem dX2_begin_63 : decode cX2_begin 63 = .ok (.pop, 1) := by decide +kernel
theorem dX2_begin_64 : decode cX2_begin 64 = .ok (.iinc 4 1, 3) := by decide +kernel
theorem dX2_begin_67 : decode cX2_begin 67 = .ok (.goto (-34), 3) := by decide +kernel
theorem dX2_begin_70 : decode cX2_begin 70 = .ok (.aload_n 0, 1) := by decide +kernel
theorem dX2_begin_71 : decode cX2_begin 71 = .ok (.dup, 1) := by decide +kernel
theorem dX2_begin_72 : decode cX2_begin 72 = .ok (.getfield 30, 3) := by decide +kernel
theorem dX2_begin_75 : decode cX2_begin 75 = .ok (.iconst 1, 1) := by decide +kernel
theorem dX2_begin_76 : decode cX2_begin 76 = .ok (.iadd, 1) := by decide +kernel
theorem dX2_begin_77 : decode cX2_begin 77 = .ok (.putfield 30, 3) := by decide +kernel
theorem dX2_begin_80 : decode cX2_begin 80 = .ok (.aload_n 0, 1) := by decide +kernel
theorem dX2_begin_81 : decode cX2_begin 81 = .ok (.dup, 1) := by decide +kernel
theorem dX2_begin_82 : decode cX2_begin 82 = .ok (.getfield 34, 3) := by decide +kernel
theorem dX2_begin_85 : decode cX2_begin 85 = .ok (.iconst 1, 1) := by decide +kernel
theorem dX2_begin_86 : decode cX2_begin 86 = .ok (.iadd, 1) := by decide +kernel
theorem dX2_begin_87 : decode cX2_begin 87 = .ok (.putfield 34, 3) := by decide +kernel
theorem dX2_begin_90 : decode cX2_begin 90 = .ok (.aload_n 3, 1) := by decide +kernel
theorem dX2_begin_91 : decode cX2_begin 91 = .ok (.getfield 37, 3) := by decide +kernel
theorem dX2_begin_94 : decode cX2_begin 94 = .ok (.ireturn, 1) := by decide +kernel
theorem dX2_writeLetter_0 : decode cX2_writeLetter 0 = .ok (.iconst 0, 1) := by decide +kernel
theorem dX2_writeLetter_1 : decode cX2_writeLetter 1 = .ok (.istore_n 3, 1) := by decide +kernel
theorem dX2_writeLetter_2 : decode cX2_writeLetter 2 = .ok (.iload_n 3, 1) := by decide +kernel
theorem dX2_writeLetter_3 : decode cX2_writeLetter 3 = .ok (.iconst 5, 1) := by decide +kernel
theorem dX2_writeLetter_4 : decode cX2_writeLetter 4 = .ok (.if_icmp .ge 25, 3) := by decide +kernel
theorem dX2_writeLetter_7 : decode cX2_writeLetter 7 = .ok (.aload_n 0, 1) := by decide +kernel
theorem dX2_writeLetter_8 : decode cX2_writeLetter 8 = .ok (.getfield 17, 3) := by decide +kernel
theorem dX2_writeLetter_11 : decode cX2_writeLetter 11 = .ok (.iload_n 3, 1) := by decide +kernel
theorem dX2_writeLetter_12 : decode cX2_writeLetter 12 = .ok (.iload_n 3, 1) := by decide +kernel
theorem dX2_writeLetter_13 : decode cX2_writeLetter 13 = .ok (.iload_n 1, 1) := by decide +kernel
theorem dX2_writeLetter_14 : decode cX2_writeLetter 14 = .ok (.if_icmp .ne 7, 3) := by decide +kernel
theorem dX2_writeLetter_17 : decode cX2_writeLetter 17 = .ok (.iconst 1, 1) := by decide +kernel
theorem dX2_writeLetter_18 : decode cX2_writeLetter 18 = .ok (.goto 4, 3) := by decide +kernel
theorem dX2_writeLetter_21 : decode cX2_writeLetter 21 = .ok (.iconst 0, 1) := by decide +kernel
theorem dX2_writeLetter_22 : decode cX2_writeLetter 22 = .ok (.iastore, 1) := by decide +kernel
theorem dX2_writeLetter_23 : decode cX2_writeLetter 23 = .ok (.iinc 3 1, 3) := by decide +kernel
theorem dX2_writeLetter_26 : decode cX2_writeLetter 26 = .ok (.goto (-24), 3) := by decide +kernel
theorem dX2_writeLetter_29 : decode cX2_writeLetter 29 = .ok (.iconst 0, 1) := by decide +kernel
theorem dX2_writeLetter_30 : decode cX2_writeLetter 30 = .ok (.istore_n 3, 1) := by decide +kernel
theorem dX2_writeLetter_31 : decode cX2_writeLetter 31 = .ok (.iload_n 3, 1) := by decide +kernel
theorem dX2_writeLetter_32 : decode cX2_writeLetter 32 = .ok (.iconst 3, 1) := by decide +kernel
theorem dX2_writeLetter_33 : decode cX2_writeLetter 33 = .ok (.if_icmp .ge 35, 3) := by decide +kernel
theorem dX2_writeLetter_36 : decode cX2_writeLetter 36 = .ok (.aload_n 0, 1) := by decide +kernel
theorem dX2_writeLetter_37 : decode cX2_writeLetter 37 = .ok (.getfield 17, 3) := by decide +kernel
theorem dX2_writeLetter_40 : decode cX2_writeLetter 40 = .ok (.iconst 5, 1) := by decide +kernel
theorem dX2_writeLetter_41 : decode cX2_writeLetter 41 = .ok (.iload_n 3, 1) := by decide +kernel
theorem dX2_writeLetter_42 : decode cX2_writeLetter 42 = .ok (.iadd, 1) := by decide +kernel
theorem dX2_writeLetter_43 : decode cX2_writeLetter 43 = .ok (.aload_n 0, 1) := by decide +kernel
theorem dX2_writeLetter_44 : decode cX2_writeLetter 44 = .ok (.getfield 25, 3) := by decide +kernel
theorem dX2_writeLetter_47 : decode cX2_writeLetter 47 = .ok (.iload_n 2, 1) := by decide +kernel
theorem dX2_writeLetter_48 : decode cX2_writeLetter 48 = .ok (.iconst 2, 1) := by decide +kernel
theorem dX2_writeLetter_49 : decode cX2_writeLetter 49 = .ok (.iconst 3, 1) := by decide +kernel
theorem dX2_writeLetter_50 : decode cX2_writeLetter 50 = .ok (.iload_n 1, 1) := by decide +kernel
theorem dX2_writeLetter_51 : decode cX2_writeLetter 51 = .ok (.imul, 1) := by decide +kernel
theorem dX2_writeLetter_52 : decode cX2_writeLetter 52 = .ok (.iload_n 3, 1) := by decide +kernel
theorem dX2_writeLetter_53 : decode cX2_writeLetter 53 = .ok (.iadd, 1) := by decide +kernel
theorem dX2_writeLetter_54 : decode cX2_writeLetter 54 = .ok (.imul, 1) := by decide +kernel
theorem dX2_writeLetter_55 : decode cX2_writeLetter 55 = .ok (.iushr, 1) := by decide +kernel
theorem dX2_writeLetter_56 : decode cX2_writeLetter 56 = .ok (.iconst 3, 1) := by decide +kernel
theorem dX2_writeLetter_57 : decode cX2_writeLetter 57 = .ok (.iand, 1) := by decide +kernel
theorem dX2_writeLetter_58 : decode cX2_writeLetter 58 = .ok (.invokevirtual 61, 3) := by decide +kernel
theorem dX2_writeLetter_61 : decode cX2_writeLetter 61 = .ok (.iastore, 1) := by decide +kernel
theorem dX2_writeLetter_62 : decode cX2_writeLetter 62 = .ok (.iinc 3 1, 3) := by decide +kernel
theorem dX2_writeLetter_65 : decode cX2_writeLetter 65 = .ok (.goto (-34), 3) := by decide +kernel
theorem dX2_writeLetter_68 : decode cX2_writeLetter 68 = .ok (.return_, 1) := by decide +kernel
theorem dX2_carry_0 : decode cX2_carry 0 = .ok (.aload_n 1, 1) := by decide +kernel
theorem dX2_carry_1 : decode cX2_carry 1 = .ok (.aload_n 0, 1) := by decide +kernel
theorem dX2_carry_2 : decode cX2_carry 2 = .ok (.getfield 17, 3) := by decide +kernel
theorem dX2_carry_5 : decode cX2_carry 5 = .ok (.aload_n 0, 1) := by decide +kernel
theorem dX2_carry_6 : decode cX2_carry 6 = .ok (.getfield 25, 3) := by decide +kernel
theorem dX2_carry_9 : decode cX2_carry 9 = .ok (.iload_n 3, 1) := by decide +kernel
theorem dX2_carry_10 : decode cX2_carry 10 = .ok (.invokevirtual 67, 3) := by decide +kernel
theorem dX2_carry_13 : decode cX2_carry 13 = .ok (.aload_n 2, 1) := by decide +kernel
theorem dX2_carry_14 : decode cX2_carry 14 = .ok (.aload_n 0, 1) := by decide +kernel
theorem dX2_carry_15 : decode cX2_carry 15 = .ok (.getfield 17, 3) := by decide +kernel
theorem dX2_carry_18 : decode cX2_carry 18 = .ok (.aload_n 0, 1) := by decide +kernel
theorem dX2_carry_19 : decode cX2_carry 19 = .ok (.getfield 25, 3) := by decide +kernel
theorem dX2_carry_22 : decode cX2_carry 22 = .ok (.invokevirtual 55, 3) := by decide +kernel
theorem dX2_carry_25 : decode cX2_carry 25 = .ok (.ireturn, 1) := by decide +kernel
theorem dX2_leastNew_0 : decode cX2_leastNew 0 = .ok (.iconst 1, 1) := by decide +kernel
theorem dX2_leastNew_1 : decode cX2_leastNew 1 = .ok (.istore_n 3, 1) := by decide +kernel
theorem dX2_leastNew_2 : decode cX2_leastNew 2 = .ok (.iconst 0, 1) := by decide +kernel
theorem dX2_leastNew_3 : decode cX2_leastNew 3 = .ok (.istore 4, 2) := by decide +kernel
theorem dX2_leastNew_5 : decode cX2_leastNew 5 = .ok (.iload 4, 2) := by decide +kernel
theorem dX2_leastNew_7 : decode cX2_leastNew 7 = .ok (.iconst 5, 1) := by decide +kernel
theorem dX2_leastNew_8 : decode cX2_leastNew 8 = .ok (.if_icmp .ge 49, 3) := by decide +kernel
theorem dX2_leastNew_11 : decode cX2_leastNew 11 = .ok (.aload_n 1, 1) := by decide +kernel
theorem dX2_leastNew_12 : decode cX2_leastNew 12 = .ok (.getfield 71, 3) := by decide +kernel
theorem dX2_leastNew_15 : decode cX2_leastNew 15 = .ok (.iload 4, 2) := by decide +kernel
theorem dX2_leastNew_17 : decode cX2_leastNew 17 = .ok (.baload, 1) := by decide +kernel
theorem dX2_leastNew_18 : decode cX2_leastNew 18 = .ok (.ifCond .eq 33, 3) := by decide +kernel
theorem dX2_leastNew_21 : decode cX2_leastNew 21 = .ok (.aload_n 2, 1) := by decide +kernel
theorem dX2_leastNew_22 : decode cX2_leastNew 22 = .ok (.aload_n 1, 1) := by decide +kernel
theorem dX2_leastNew_23 : decode cX2_leastNew 23 = .ok (.getfield 74, 3) := by decide +kernel
theorem dX2_leastNew_26 : decode cX2_leastNew 26 = .ok (.iload 4, 2) := by decide +kernel
theorem dX2_leastNew_28 : decode cX2_leastNew 28 = .ok (.aaload, 1) := by decide +kernel
theorem dX2_leastNew_29 : decode cX2_leastNew 29 = .ok (.aload_n 0, 1) := by decide +kernel
theorem dX2_leastNew_30 : decode cX2_leastNew 30 = .ok (.getfield 25, 3) := by decide +kernel
theorem dX2_leastNew_33 : decode cX2_leastNew 33 = .ok (.invokevirtual 78, 3) := by decide +kernel
theorem dX2_leastNew_36 : decode cX2_leastNew 36 = .ok (.ifCond .lt 5, 3) := by decide +kernel
theorem dX2_leastNew_39 : decode cX2_leastNew 39 = .ok (.iload_n 3, 1) := by decide +kernel
theorem dX2_leastNew_40 : decode cX2_leastNew 40 = .ok (.ireturn, 1) := by decide +kernel
theorem dX2_leastNew_41 : decode cX2_leastNew 41 = .ok (.iload_n 3, 1) := by decide +kernel
theorem dX2_leastNew_42 : decode cX2_leastNew 42 = .ok (.aload_n 0, 1) := by decide +kernel
theorem dX2_leastNew_43 : decode cX2_leastNew 43 = .ok (.getfield 25, 3) := by decide +kernel
theorem dX2_leastNew_46 : decode cX2_leastNew 46 = .ok (.getfield 82, 3) := by decide +kernel
theorem dX2_leastNew_49 : decode cX2_leastNew 49 = .ok (.imul, 1) := by decide +kernel
theorem dX2_leastNew_50 : decode cX2_leastNew 50 = .ok (.istore_n 3, 1) := by decide +kernel
theorem dX2_leastNew_51 : decode cX2_leastNew 51 = .ok (.iinc 4 1, 3) := by decide +kernel
theorem dX2_leastNew_54 : decode cX2_leastNew 54 = .ok (.goto (-49), 3) := by decide +kernel
theorem dX2_leastNew_57 : decode cX2_leastNew 57 = .ok (.bipush (-9), 2) := by decide +kernel
theorem dX2_leastNew_59 : decode cX2_leastNew 59 = .ok (.ireturn, 1) := by decide +kernel
theorem dX2_leastNewForAll_0 : decode cX2_leastNewForAll 0 = .ok (.aload_n 1, 1) := by decide +kernel
theorem dX2_leastNewForAll_1 : decode cX2_leastNewForAll 1 = .ok (.getfield 44, 3) := by decide +kernel
theorem dX2_leastNewForAll_4 : decode cX2_leastNewForAll 4 = .ok (.iload_n 2, 1) := by decide +kernel
theorem dX2_leastNewForAll_5 : decode cX2_leastNewForAll 5 = .ok (.aaload, 1) := by decide +kernel
theorem dX2_leastNewForAll_6 : decode cX2_leastNewForAll 6 = .ok (.astore_n 3, 1) := by decide +kernel
theorem dX2_leastNewForAll_7 : decode cX2_leastNewForAll 7 = .ok (.bipush (-9), 2) := by decide +kernel
theorem dX2_leastNewForAll_9 : decode cX2_leastNewForAll 9 = .ok (.istore 4, 2) := by decide +kernel
theorem dX2_leastNewForAll_11 : decode cX2_leastNewForAll 11 = .ok (.iconst 0, 1) := by decide +kernel
theorem dX2_leastNewForAll_12 : decode cX2_leastNewForAll 12 = .ok (.istore 5, 2) := by decide +kernel
theorem dX2_leastNewForAll_14 : decode cX2_leastNewForAll 14 = .ok (.iload 5, 2) := by decide +kernel
theorem dX2_leastNewForAll_16 : decode cX2_leastNewForAll 16 = .ok (.iconst 4, 1) := by decide +kernel
theorem dX2_leastNewForAll_17 : decode cX2_leastNewForAll 17 = .ok (.if_icmp .ge 62, 3) := by decide +kernel
theorem dX2_leastNewForAll_20 : decode cX2_leastNewForAll 20 = .ok (.iload 5, 2) := by decide +kernel
theorem dX2_leastNewForAll_22 : decode cX2_leastNewForAll 22 = .ok (.iload_n 2, 1) := by decide +kernel
theorem dX2_leastNewForAll_23 : decode cX2_leastNewForAll 23 = .ok (.if_icmp .ne 8, 3) := by decide +kernel
theorem dX2_leastNewForAll_26 : decode cX2_leastNewForAll 26 = .ok (.bipush (-9), 2) := by decide +kernel
theorem dX2_leastNewForAll_28 : decode cX2_leastNewForAll 28 = .ok (.goto 15, 3) := by decide +kernel
theorem dX2_leastNewForAll_31 : decode cX2_leastNewForAll 31 = .ok (.aload_n 0, 1) := by decide +kernel
theorem dX2_leastNewForAll_32 : decode cX2_leastNewForAll 32 = .ok (.aload_n 3, 1) := by decide +kernel
theorem dX2_leastNewForAll_33 : decode cX2_leastNewForAll 33 = .ok (.aload_n 1, 1) := by decide +kernel
theorem dX2_leastNewForAll_34 : decode cX2_leastNewForAll 34 = .ok (.getfield 44, 3) := by decide +kernel
theorem dX2_leastNewForAll_37 : decode cX2_leastNewForAll 37 = .ok (.iload 5, 2) := by decide +kernel
theorem dX2_leastNewForAll_39 : decode cX2_leastNewForAll 39 = .ok (.aaload, 1) := by decide +kernel
theorem dX2_leastNewForAll_40 : decode cX2_leastNewForAll 40 = .ok (.invokevirtual 85, 3) := by decide +kernel
theorem dX2_leastNewForAll_43 : decode cX2_leastNewForAll 43 = .ok (.istore 6, 2) := by decide +kernel
theorem dX2_leastNewForAll_45 : decode cX2_leastNewForAll 45 = .ok (.aload_n 0, 1) := by decide +kernel
theorem dX2_leastNewForAll_46 : decode cX2_leastNewForAll 46 = .ok (.getfield 21, 3) := by decide +kernel
theorem dX2_leastNewForAll_49 : decode cX2_leastNewForAll 49 = .ok (.iload 5, 2) := by decide +kernel
theorem dX2_leastNewForAll_51 : decode cX2_leastNewForAll 51 = .ok (.iload 6, 2) := by decide +kernel
theorem dX2_leastNewForAll_53 : decode cX2_leastNewForAll 53 = .ok (.bipush (-9), 2) := by decide +kernel
theorem dX2_leastNewForAll_55 : decode cX2_leastNewForAll 55 = .ok (.if_icmp .eq 7, 3) := by decide +kernel
theorem dX2_leastNewForAll_58 : decode cX2_leastNewForAll 58 = .ok (.iconst 1, 1) := by decide +kernel
theorem dX2_leastNewForAll_59 : decode cX2_leastNewForAll 59 = .ok (.goto 4, 3) := by decide +kernel
theorem dX2_leastNewForAll_62 : decode cX2_leastNewForAll 62 = .ok (.iconst 0, 1) := by decide +kernel
theorem dX2_leastNewForAll_63 : decode cX2_leastNewForAll 63 = .ok (.bastore, 1) := by decide +kernel
theorem dX2_leastNewForAll_64 : decode cX2_leastNewForAll 64 = .ok (.iload 4, 2) := by decide +kernel
theorem dX2_leastNewForAll_66 : decode cX2_leastNewForAll 66 = .ok (.iload 6, 2) := by decide +kernel
theorem dX2_leastNewForAll_68 : decode cX2_leastNewForAll 68 = .ok (.invokestatic 89, 3) := by decide +kernel
theorem dX2_leastNewForAll_71 : decode cX2_leastNewForAll 71 = .ok (.istore 4, 2) := by decide +kernel
theorem dX2_leastNewForAll_73 : decode cX2_leastNewForAll 73 = .ok (.iinc 5 1, 3) := by decide +kernel
theorem dX2_leastNewForAll_76 : decode cX2_leastNewForAll 76 = .ok (.goto (-62), 3) := by decide +kernel
theorem dX2_leastNewForAll_79 : decode cX2_leastNewForAll 79 = .ok (.iload 4, 2) := by decide +kernel
theorem dX2_leastNewForAll_81 : decode cX2_leastNewForAll 81 = .ok (.bipush (-9), 2) := by decide +kernel
theorem dX2_leastNewForAll_83 : decode cX2_leastNewForAll 83 = .ok (.if_icmp .ne 6, 3) := by decide +kernel
theorem dX2_leastNewForAll_86 : decode cX2_leastNewForAll 86 = .ok (.bipush (-9), 2) := by decide +kernel
theorem dX2_leastNewForAll_88 : decode cX2_leastNewForAll 88 = .ok (.ireturn, 1) := by decide +kernel
theorem dX2_leastNewForAll_89 : decode cX2_leastNewForAll 89 = .ok (.aload_n 0, 1) := by decide +kernel
theorem dX2_leastNewForAll_90 : decode cX2_leastNewForAll 90 = .ok (.aload_n 3, 1) := by decide +kernel
theorem dX2_leastNewForAll_91 : decode cX2_leastNewForAll 91 = .ok (.invokevirtual 95, 3) := by decide +kernel
theorem dX2_leastNewForAll_94 : decode cX2_leastNewForAll 94 = .ok (.invokevirtual 99, 3) := by decide +kernel
theorem dX2_leastNewForAll_97 : decode cX2_leastNewForAll 97 = .ok (.istore 5, 2) := by decide +kernel
theorem dX2_leastNewForAll_99 : decode cX2_leastNewForAll 99 = .ok (.iload 4, 2) := by decide +kernel
