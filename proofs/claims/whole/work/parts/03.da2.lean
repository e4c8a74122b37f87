theorem dX3_addTimes_3 : decode cX3_addTimes 3 = .ok (.iload 4, 2) := by decide +kernel
theorem dX3_addTimes_5 : decode cX3_addTimes 5 = .ok (.bipush 8, 2) := by decide +kernel
theorem dX3_addTimes_7 : decode cX3_addTimes 7 = .ok (.if_icmp .ge 28, 3) := by decide +kernel
theorem dX3_addTimes_10 : decode cX3_addTimes 10 = .ok (.aload_n 0, 1) := by decide +kernel
theorem dX3_addTimes_11 : decode cX3_addTimes 11 = .ok (.iload 4, 2) := by decide +kernel
theorem dX3_addTimes_13 : decode cX3_addTimes 13 = .ok (.aload_n 1, 1) := by decide +kernel
theorem dX3_addTimes_14 : decode cX3_addTimes 14 = .ok (.aload_n 0, 1) := by decide +kernel
theorem dX3_addTimes_15 : decode cX3_addTimes 15 = .ok (.iload 4, 2) := by decide +kernel
theorem dX3_addTimes_17 : decode cX3_addTimes 17 = .ok (.iaload, 1) := by decide +kernel
theorem dX3_addTimes_18 : decode cX3_addTimes 18 = .ok (.iload_n 2, 1) := by decide +kernel
theorem dX3_addTimes_19 : decode cX3_addTimes 19 = .ok (.aload_n 3, 1) := by decide +kernel
theorem dX3_addTimes_20 : decode cX3_addTimes 20 = .ok (.iload 4, 2) := by decide +kernel
theorem dX3_addTimes_22 : decode cX3_addTimes 22 = .ok (.iaload, 1) := by decide +kernel
theorem dX3_addTimes_23 : decode cX3_addTimes 23 = .ok (.imul, 1) := by decide +kernel
theorem dX3_addTimes_24 : decode cX3_addTimes 24 = .ok (.iadd, 1) := by decide +kernel
theorem dX3_addTimes_25 : decode cX3_addTimes 25 = .ok (.invokevirtual 20, 3) := by decide +kernel
theorem dX3_addTimes_28 : decode cX3_addTimes 28 = .ok (.iastore, 1) := by decide +kernel
theorem dX3_addTimes_29 : decode cX3_addTimes 29 = .ok (.iinc 4 1, 3) := by decide +kernel
theorem dX3_addTimes_32 : decode cX3_addTimes 32 = .ok (.goto (-29), 3) := by decide +kernel
theorem dX3_addTimes_35 : decode cX3_addTimes 35 = .ok (.return_, 1) := by decide +kernel
theorem dX4_init_0 : decode cX4_init 0 = .ok (.aload_n 0, 1) := by decide +kernel
theorem dX4_init_1 : decode cX4_init 1 = .ok (.invokespecial 3, 3) := by decide +kernel
theorem dX4_init_4 : decode cX4_init 4 = .ok (.aload_n 0, 1) := by decide +kernel
theorem dX4_init_5 : decode cX4_init 5 = .ok (.bipush 60, 2) := by decide +kernel
theorem dX4_init_7 : decode cX4_init 7 = .ok (.newarray .int, 2) := by decide +kernel
theorem dX4_init_9 : decode cX4_init 9 = .ok (.putfield 9, 3) := by decide +kernel
theorem dX4_init_12 : decode cX4_init 12 = .ok (.return_, 1) := by decide +kernel
theorem dX4_put_0 : decode cX4_put 0 = .ok (.aload_n 0, 1) := by decide +kernel
theorem dX4_put_1 : decode cX4_put 1 = .ok (.getfield 15, 3) := by decide +kernel
theorem dX4_put_4 : decode cX4_put 4 = .ok (.bipush 60, 2) := by decide +kernel
theorem dX4_put_6 : decode cX4_put 6 = .ok (.if_icmp .ge 23, 3) := by decide +kernel
theorem dX4_put_9 : decode cX4_put 9 = .ok (.aload_n 0, 1) := by decide +kernel
theorem dX4_put_10 : decode cX4_put 10 = .ok (.getfield 9, 3) := by decide +kernel
theorem dX4_put_13 : decode cX4_put 13 = .ok (.aload_n 0, 1) := by decide +kernel
theorem dX4_put_14 : decode cX4_put 14 = .ok (.getfield 15, 3) := by decide +kernel
theorem dX4_put_17 : decode cX4_put 17 = .ok (.iload_n 1, 1) := by decide +kernel
theorem dX4_put_18 : decode cX4_put 18 = .ok (.iastore, 1) := by decide +kernel
theorem dX4_put_19 : decode cX4_put 19 = .ok (.aload_n 0, 1) := by decide +kernel
theorem dX4_put_20 : decode cX4_put 20 = .ok (.dup, 1) := by decide +kernel
theorem dX4_put_21 : decode cX4_put 21 = .ok (.getfield 15, 3) := by decide +kernel
theorem dX4_put_24 : decode cX4_put 24 = .ok (.iconst 1, 1) := by decide +kernel
theorem dX4_put_25 : decode cX4_put 25 = .ok (.iadd, 1) := by decide +kernel
theorem dX4_put_26 : decode cX4_put 26 = .ok (.putfield 15, 3) := by decide +kernel
theorem dX4_put_29 : decode cX4_put 29 = .ok (.return_, 1) := by decide +kernel
theorem dX4_putFigure_0 : decode cX4_putFigure 0 = .ok (.aload_n 0, 1) := by decide +kernel
theorem dX4_putFigure_1 : decode cX4_putFigure 1 = .ok (.bipush 48, 2) := by decide +kernel
theorem dX4_putFigure_3 : decode cX4_putFigure 3 = .ok (.iload_n 1, 1) := by decide +kernel
theorem dX4_putFigure_4 : decode cX4_putFigure 4 = .ok (.iadd, 1) := by decide +kernel
theorem dX4_putFigure_5 : decode cX4_putFigure 5 = .ok (.invokevirtual 19, 3) := by decide +kernel
theorem dX4_putFigure_8 : decode cX4_putFigure 8 = .ok (.return_, 1) := by decide +kernel
theorem dX4_putBody_0 : decode cX4_putBody 0 = .ok (.iload_n 1, 1) := by decide +kernel
theorem dX4_putBody_1 : decode cX4_putBody 1 = .ok (.bipush 100, 2) := by decide +kernel
theorem dX4_putBody_3 : decode cX4_putBody 3 = .ok (.if_icmp .lt 11, 3) := by decide +kernel
theorem dX4_putBody_6 : decode cX4_putBody 6 = .ok (.aload_n 0, 1) := by decide +kernel
theorem dX4_putBody_7 : decode cX4_putBody 7 = .ok (.iload_n 1, 1) := by decide +kernel
theorem dX4_putBody_8 : decode cX4_putBody 8 = .ok (.bipush 100, 2) := by decide +kernel
theorem dX4_putBody_10 : decode cX4_putBody 10 = .ok (.idiv, 1) := by decide +kernel
theorem dX4_putBody_11 : decode cX4_putBody 11 = .ok (.invokevirtual 23, 3) := by decide +kernel
theorem dX4_putBody_14 : decode cX4_putBody 14 = .ok (.iload_n 1, 1) := by decide +kernel
theorem dX4_putBody_15 : decode cX4_putBody 15 = .ok (.bipush 10, 2) := by decide +kernel
theorem dX4_putBody_17 : decode cX4_putBody 17 = .ok (.if_icmp .lt 14, 3) := by decide +kernel
theorem dX4_putBody_20 : decode cX4_putBody 20 = .ok (.aload_n 0, 1) := by decide +kernel
theorem dX4_putBody_21 : decode cX4_putBody 21 = .ok (.iload_n 1, 1) := by decide +kernel
theorem dX4_putBody_22 : decode cX4_putBody 22 = .ok (.bipush 10, 2) := by decide +kernel
theorem dX4_putBody_24 : decode cX4_putBody 24 = .ok (.idiv, 1) := by decide +kernel
theorem dX4_putBody_25 : decode cX4_putBody 25 = .ok (.bipush 10, 2) := by decide +kernel
theorem dX4_putBody_27 : decode cX4_putBody 27 = .ok (.irem, 1) := by decide +kernel
theorem dX4_putBody_28 : decode cX4_putBody 28 = .ok (.invokevirtual 23, 3) := by decide +kernel
theorem dX4_putBody_31 : decode cX4_putBody 31 = .ok (.aload_n 0, 1) := by decide +kernel
theorem dX4_putBody_32 : decode cX4_putBody 32 = .ok (.iload_n 1, 1) := by decide +kernel
theorem dX4_putBody_33 : decode cX4_putBody 33 = .ok (.bipush 10, 2) := by decide +kernel
theorem dX4_putBody_35 : decode cX4_putBody 35 = .ok (.irem, 1) := by decide +kernel
theorem dX4_putBody_36 : decode cX4_putBody 36 = .ok (.invokevirtual 23, 3) := by decide +kernel
theorem dX4_putBody_39 : decode cX4_putBody 39 = .ok (.return_, 1) := by decide +kernel
theorem dX4_writeSum_0 : decode cX4_writeSum 0 = .ok (.aload_n 0, 1) := by decide +kernel
theorem dX4_writeSum_1 : decode cX4_writeSum 1 = .ok (.iconst 0, 1) := by decide +kernel
theorem dX4_writeSum_2 : decode cX4_writeSum 2 = .ok (.putfield 15, 3) := by decide +kernel
theorem dX4_writeSum_5 : decode cX4_writeSum 5 = .ok (.iconst 0, 1) := by decide +kernel
theorem dX4_writeSum_6 : decode cX4_writeSum 6 = .ok (.istore_n 3, 1) := by decide +kernel
theorem dX4_writeSum_7 : decode cX4_writeSum 7 = .ok (.iload_n 3, 1) := by decide +kernel
theorem dX4_writeSum_8 : decode cX4_writeSum 8 = .ok (.bipush 10, 2) := by decide +kernel
theorem dX4_writeSum_10 : decode cX4_writeSum 10 = .ok (.if_icmp .ge 36, 3) := by decide +kernel
theorem dX4_writeSum_13 : decode cX4_writeSum 13 = .ok (.iload_n 1, 1) := by decide +kernel
theorem dX4_writeSum_14 : decode cX4_writeSum 14 = .ok (.iload_n 3, 1) := by decide +kernel
theorem dX4_writeSum_15 : decode cX4_writeSum 15 = .ok (.ishr, 1) := by decide +kernel
theorem dX4_writeSum_16 : decode cX4_writeSum 16 = .ok (.iconst 1, 1) := by decide +kernel
theorem dX4_writeSum_17 : decode cX4_writeSum 17 = .ok (.iand, 1) := by decide +kernel
theorem dX4_writeSum_18 : decode cX4_writeSum 18 = .ok (.iconst 1, 1) := by decide +kernel
theorem dX4_writeSum_19 : decode cX4_writeSum 19 = .ok (.if_icmp .ne 21, 3) := by decide +kernel
theorem dX4_writeSum_22 : decode cX4_writeSum 22 = .ok (.aload_n 0, 1) := by decide +kernel
theorem dX4_writeSum_23 : decode cX4_writeSum 23 = .ok (.getfield 15, 3) := by decide +kernel
theorem dX4_writeSum_26 : decode cX4_writeSum 26 = .ok (.ifCond .le 9, 3) := by decide +kernel
theorem dX4_writeSum_29 : decode cX4_writeSum 29 = .ok (.aload_n 0, 1) := by decide +kernel
theorem dX4_writeSum_30 : decode cX4_writeSum 30 = .ok (.bipush 43, 2) := by decide +kernel
theorem dX4_writeSum_32 : decode cX4_writeSum 32 = .ok (.invokevirtual 19, 3) := by decide +kernel
theorem dX4_writeSum_35 : decode cX4_writeSum 35 = .ok (.aload_n 0, 1) := by decide +kernel
theorem dX4_writeSum_36 : decode cX4_writeSum 36 = .ok (.iload_n 3, 1) := by decide +kernel
theorem dX4_writeSum_37 : decode cX4_writeSum 37 = .ok (.invokevirtual 23, 3) := by decide +kernel
theorem dX4_writeSum_40 : decode cX4_writeSum 40 = .ok (.iinc 3 1, 3) := by decide +kernel
theorem dX4_writeSum_43 : decode cX4_writeSum 43 = .ok (.goto (-36), 3) := by decide +kernel
theorem dX4_writeSum_46 : decode cX4_writeSum 46 = .ok (.aload_n 0, 1) := by decide +kernel
theorem dX4_writeSum_47 : decode cX4_writeSum 47 = .ok (.bipush 32, 2) := by decide +kernel
theorem dX4_writeSum_49 : decode cX4_writeSum 49 = .ok (.invokevirtual 19, 3) := by decide +kernel
theorem dX4_writeSum_52 : decode cX4_writeSum 52 = .ok (.aload_n 0, 1) := by decide +kernel
theorem dX4_writeSum_53 : decode cX4_writeSum 53 = .ok (.iload_n 2, 1) := by decide +kernel
theorem dX4_writeSum_54 : decode cX4_writeSum 54 = .ok (.invokevirtual 26, 3) := by decide +kernel
theorem dX4_writeSum_57 : decode cX4_writeSum 57 = .ok (.return_, 1) := by decide +kernel
theorem dX4_writeRows_0 : decode cX4_writeRows 0 = .ok (.aload_n 0, 1) := by decide +kernel
theorem dX4_writeRows_1 : decode cX4_writeRows 1 = .ok (.iconst 0, 1) := by decide +kernel
theorem dX4_writeRows_2 : decode cX4_writeRows 2 = .ok (.putfield 15, 3) := by decide +kernel
theorem dX4_writeRows_5 : decode cX4_writeRows 5 = .ok (.iconst 0, 1) := by decide +kernel
theorem dX4_writeRows_6 : decode cX4_writeRows 6 = .ok (.istore_n 3, 1) := by decide +kernel
theorem dX4_writeRows_7 : decode cX4_writeRows 7 = .ok (.iload_n 3, 1) := by decide +kernel
theorem dX4_writeRows_8 : decode cX4_writeRows 8 = .ok (.iconst 5, 1) := by decide +kernel
theorem dX4_writeRows_9 : decode cX4_writeRows 9 = .ok (.if_icmp .ge 38, 3) := by decide +kernel
theorem dX4_writeRows_12 : decode cX4_writeRows 12 = .ok (.aload_n 1, 1) := by decide +kernel
theorem dX4_writeRows_13 : decode cX4_writeRows 13 = .ok (.getfield 29, 3) := by decide +kernel
theorem dX4_writeRows_16 : decode cX4_writeRows 16 = .ok (.iload_n 3, 1) := by decide +kernel
theorem dX4_writeRows_17 : decode cX4_writeRows 17 = .ok (.baload, 1) := by decide +kernel
theorem dX4_writeRows_18 : decode cX4_writeRows 18 = .ok (.ifCond .eq 23, 3) := by decide +kernel
theorem dX4_writeRows_21 : decode cX4_writeRows 21 = .ok (.aload_n 0, 1) := by decide +kernel
theorem dX4_writeRows_22 : decode cX4_writeRows 22 = .ok (.getfield 15, 3) := by decide +kernel
theorem dX4_writeRows_25 : decode cX4_writeRows 25 = .ok (.ifCond .le 9, 3) := by decide +kernel
theorem dX4_writeRows_28 : decode cX4_writeRows 28 = .ok (.aload_n 0, 1) := by decide +kernel
theorem dX4_writeRows_29 : decode cX4_writeRows 29 = .ok (.bipush 32, 2) := by decide +kernel
theorem dX4_writeRows_31 : decode cX4_writeRows 31 = .ok (.invokevirtual 19, 3) := by decide +kernel
theorem dX4_writeRows_34 : decode cX4_writeRows 34 = .ok (.aload_n 0, 1) := by decide +kernel
theorem dX4_writeRows_35 : decode cX4_writeRows 35 = .ok (.aload_n 1, 1) := by decide +kernel
theorem dX4_writeRows_36 : decode cX4_writeRows 36 = .ok (.iload_n 3, 1) := by decide +kernel
theorem dX4_writeRows_37 : decode cX4_writeRows 37 = .ok (.iload_n 2, 1) := by decide +kernel
theorem dX4_writeRows_38 : decode cX4_writeRows 38 = .ok (.invokevirtual 35, 3) := by decide +kernel
theorem dX4_writeRows_41 : decode cX4_writeRows 41 = .ok (.iinc 3 1, 3) := by decide +kernel
theorem dX4_writeRows_44 : decode cX4_writeRows 44 = .ok (.goto (-37), 3) := by decide +kernel
theorem dX4_writeRows_47 : decode cX4_writeRows 47 = .ok (.return_, 1) := by decide +kernel
theorem dX4_writeRow_0 : decode cX4_writeRow 0 = .ok (.iconst 0, 1) := by decide +kernel
theorem dX4_writeRow_1 : decode cX4_writeRow 1 = .ok (.istore 4, 2) := by decide +kernel
theorem dX4_writeRow_3 : decode cX4_writeRow 3 = .ok (.iload 4, 2) := by decide +kernel
theorem dX4_writeRow_5 : decode cX4_writeRow 5 = .ok (.iload_n 3, 1) := by decide +kernel
theorem dX4_writeRow_6 : decode cX4_writeRow 6 = .ok (.if_icmp .ge 20, 3) := by decide +kernel
theorem dX4_writeRow_9 : decode cX4_writeRow 9 = .ok (.aload_n 0, 1) := by decide +kernel
theorem dX4_writeRow_10 : decode cX4_writeRow 10 = .ok (.aload_n 1, 1) := by decide +kernel
theorem dX4_writeRow_11 : decode cX4_writeRow 11 = .ok (.iload_n 2, 1) := by decide +kernel
theorem dX4_writeRow_12 : decode cX4_writeRow 12 = .ok (.iload 4, 2) := by decide +kernel
theorem dX4_writeRow_14 : decode cX4_writeRow 14 = .ok (.invokevirtual 39, 3) := by decide +kernel
theorem dX4_writeRow_17 : decode cX4_writeRow 17 = .ok (.invokevirtual 23, 3) := by decide +kernel
theorem dX4_writeRow_20 : decode cX4_writeRow 20 = .ok (.iinc 4 1, 3) := by decide +kernel
theorem dX4_writeRow_23 : decode cX4_writeRow 23 = .ok (.goto (-20), 3) := by decide +kernel
theorem dX4_writeRow_26 : decode cX4_writeRow 26 = .ok (.aload_n 0, 1) := by decide +kernel
theorem dX4_writeRow_27 : decode cX4_writeRow 27 = .ok (.bipush 58, 2) := by decide +kernel
theorem dX4_writeRow_29 : decode cX4_writeRow 29 = .ok (.invokevirtual 19, 3) := by decide +kernel
theorem dX4_writeRow_32 : decode cX4_writeRow 32 = .ok (.iconst 0, 1) := by decide +kernel
theorem dX4_writeRow_33 : decode cX4_writeRow 33 = .ok (.istore 4, 2) := by decide +kernel
theorem dX4_writeRow_35 : decode cX4_writeRow 35 = .ok (.iload 4, 2) := by decide +kernel
theorem dX4_writeRow_37 : decode cX4_writeRow 37 = .ok (.iconst 3, 1) := by decide +kernel
theorem dX4_writeRow_38 : decode cX4_writeRow 38 = .ok (.if_icmp .ge 22, 3) := by decide +kernel
theorem dX4_writeRow_41 : decode cX4_writeRow 41 = .ok (.aload_n 0, 1) := by decide +kernel
theorem dX4_writeRow_42 : decode cX4_writeRow 42 = .ok (.aload_n 1, 1) := by decide +kernel
theorem dX4_writeRow_43 : decode cX4_writeRow 43 = .ok (.iload_n 2, 1) := by decide +kernel
theorem dX4_writeRow_44 : decode cX4_writeRow 44 = .ok (.iconst 5, 1) := by decide +kernel
theorem dX4_writeRow_45 : decode cX4_writeRow 45 = .ok (.iload 4, 2) := by decide +kernel
theorem dX4_writeRow_47 : decode cX4_writeRow 47 = .ok (.iadd, 1) := by decide +kernel
theorem dX4_writeRow_48 : decode cX4_writeRow 48 = .ok (.invokevirtual 39, 3) := by decide +kernel
theorem dX4_writeRow_51 : decode cX4_writeRow 51 = .ok (.invokevirtual 23, 3) := by decide +kernel
theorem dX4_writeRow_54 : decode cX4_writeRow 54 = .ok (.iinc 4 1, 3) := by decide +kernel
theorem dX4_writeRow_57 : decode cX4_writeRow 57 = .ok (.goto (-22), 3) := by decide +kernel
theorem dX4_writeRow_60 : decode cX4_writeRow 60 = .ok (.return_, 1) := by decide +kernel
theorem dX4_answer_0 : decode cX4_answer 0 = .ok (.iload_n 1, 1) := by decide +kernel
theorem dX4_answer_1 : decode cX4_answer 1 = .ok (.ifCond .ge 8, 3) := by decide +kernel
theorem dX4_answer_4 : decode cX4_answer 4 = .ok (.aload_n 0, 1) := by decide +kernel
theorem dX4_answer_5 : decode cX4_answer 5 = .ok (.getfield 15, 3) := by decide +kernel
theorem dX4_answer_8 : decode cX4_answer 8 = .ok (.ireturn, 1) := by decide +kernel
theorem dX4_answer_9 : decode cX4_answer 9 = .ok (.iload_n 1, 1) := by decide +kernel
theorem dX4_answer_10 : decode cX4_answer 10 = .ok (.aload_n 0, 1) := by decide +kernel
theorem dX4_answer_11 : decode cX4_answer 11 = .ok (.getfield 15, 3) := by decide +kernel
theorem dX4_answer_14 : decode cX4_answer 14 = .ok (.if_icmp .ge 12, 3) := by decide +kernel
theorem dX4_answer_17 : decode cX4_answer 17 = .ok (.aload_n 0, 1) := by decide +kernel
theorem dX4_answer_18 : decode cX4_answer 18 = .ok (.getfield 9, 3) := by decide +kernel
theorem dX4_answer_21 : decode cX4_answer 21 = .ok (.iload_n 1, 1) := by decide +kernel
theorem dX4_answer_22 : decode cX4_answer 22 = .ok (.iaload, 1) := by decide +kernel
theorem dX4_answer_23 : decode cX4_answer 23 = .ok (.goto 5, 3) := by decide +kernel
theorem dX4_answer_26 : decode cX4_answer 26 = .ok (.bipush (-9), 2) := by decide +kernel
theorem dX4_answer_28 : decode cX4_answer 28 = .ok (.ireturn, 1) := by decide +kernel
theorem dX5_init_0 : decode cX5_init 0 = .ok (.aload_n 0, 1) := by decide +kernel
theorem dX5_init_1 : decode cX5_init 1 = .ok (.invokespecial 3, 3) := by decide +kernel
theorem dX5_init_4 : decode cX5_init 4 = .ok (.aload_n 0, 1) := by decide +kernel
theorem dX5_init_5 : decode cX5_init 5 = .ok (.bipush 16, 2) := by decide +kernel
theorem dX5_init_7 : decode cX5_init 7 = .ok (.newarray .int, 2) := by decide +kernel
theorem dX5_init_9 : decode cX5_init 9 = .ok (.putfield 9, 3) := by decide +kernel
theorem dX5_init_12 : decode cX5_init 12 = .ok (.aload_n 0, 1) := by decide +kernel
theorem dX5_init_13 : decode cX5_init 13 = .ok (.bipush 16, 2) := by decide +kernel
theorem dX5_init_15 : decode cX5_init 15 = .ok (.newarray .int, 2) := by decide +kernel
theorem dX5_init_17 : decode cX5_init 17 = .ok (.putfield 15, 3) := by decide +kernel
theorem dX5_init_20 : decode cX5_init 20 = .ok (.return_, 1) := by decide +kernel
theorem dX5_indexOf_0 : decode cX5_indexOf 0 = .ok (.iconst 0, 1) := by decide +kernel
theorem dX5_indexOf_1 : decode cX5_indexOf 1 = .ok (.istore_n 3, 1) := by decide +kernel
theorem dX5_indexOf_2 : decode cX5_indexOf 2 = .ok (.iload_n 3, 1) := by decide +kernel
theorem dX5_indexOf_3 : decode cX5_indexOf 3 = .ok (.aload_n 0, 1) := by decide +kernel
theorem dX5_indexOf_4 : decode cX5_indexOf 4 = .ok (.getfield 18, 3) := by decide +kernel
theorem dX5_indexOf_7 : decode cX5_indexOf 7 = .ok (.if_icmp .ge 31, 3) := by decide +kernel
theorem dX5_indexOf_10 : decode cX5_indexOf 10 = .ok (.aload_n 0, 1) := by decide +kernel
theorem dX5_indexOf_11 : decode cX5_indexOf 11 = .ok (.getfield 9, 3) := by decide +kernel
theorem dX5_indexOf_14 : decode cX5_indexOf 14 = .ok (.iload_n 3, 1) := by decide +kernel
theorem dX5_indexOf_15 : decode cX5_indexOf 15 = .ok (.iaload, 1) := by decide +kernel
theorem dX5_indexOf_16 : decode cX5_indexOf 16 = .ok (.iload_n 1, 1) := by decide +kernel
theorem dX5_indexOf_17 : decode cX5_indexOf 17 = .ok (.if_icmp .ne 15, 3) := by decide +kernel
theorem dX5_indexOf_20 : decode cX5_indexOf 20 = .ok (.aload_n 0, 1) := by decide +kernel
theorem dX5_indexOf_21 : decode cX5_indexOf 21 = .ok (.getfield 15, 3) := by decide +kernel
theorem dX5_indexOf_24 : decode cX5_indexOf 24 = .ok (.iload_n 3, 1) := by decide +kernel
theorem dX5_indexOf_25 : decode cX5_indexOf 25 = .ok (.iaload, 1) := by decide +kernel
theorem dX5_indexOf_26 : decode cX5_indexOf 26 = .ok (.iload_n 2, 1) := by decide +kernel
theorem dX5_indexOf_27 : decode cX5_indexOf 27 = .ok (.if_icmp .ne 5, 3) := by decide +kernel
theorem dX5_indexOf_30 : decode cX5_indexOf 30 = .ok (.iload_n 3, 1) := by decide +kernel
theorem dX5_indexOf_31 : decode cX5_indexOf 31 = .ok (.ireturn, 1) := by decide +kernel
theorem dX5_indexOf_32 : decode cX5_indexOf 32 = .ok (.iinc 3 1, 3) := by decide +kernel
theorem dX5_indexOf_35 : decode cX5_indexOf 35 = .ok (.goto (-33), 3) := by decide +kernel
theorem dX5_indexOf_38 : decode cX5_indexOf 38 = .ok (.iconst (-1), 1) := by decide +kernel
theorem dX5_indexOf_39 : decode cX5_indexOf 39 = .ok (.ireturn, 1) := by decide +kernel
theorem dX5_add_0 : decode cX5_add 0 = .ok (.aload_n 0, 1) := by decide +kernel
theorem dX5_add_1 : decode cX5_add 1 = .ok (.getfield 18, 3) := by decide +kernel
theorem dX5_add_4 : decode cX5_add 4 = .ok (.bipush 16, 2) := by decide +kernel
theorem dX5_add_6 : decode cX5_add 6 = .ok (.if_icmp .lt 5, 3) := by decide +kernel
theorem dX5_add_9 : decode cX5_add 9 = .ok (.iconst 0, 1) := by decide +kernel
theorem dX5_add_10 : decode cX5_add 10 = .ok (.ireturn, 1) := by decide +kernel
theorem dX5_add_11 : decode cX5_add 11 = .ok (.aload_n 0, 1) := by decide +kernel
theorem dX5_add_12 : decode cX5_add 12 = .ok (.getfield 9, 3) := by decide +kernel
theorem dX5_add_15 : decode cX5_add 15 = .ok (.aload_n 0, 1) := by decide +kernel
theorem dX5_add_16 : decode cX5_add 16 = .ok (.getfield 18, 3) := by decide +kernel
theorem dX5_add_19 : decode cX5_add 19 = .ok (.iload_n 1, 1) := by decide +kernel
theorem dX5_add_20 : decode cX5_add 20 = .ok (.iastore, 1) := by decide +kernel
theorem dX5_add_21 : decode cX5_add 21 = .ok (.aload_n 0, 1) := by decide +kernel
theorem dX5_add_22 : decode cX5_add 22 = .ok (.getfield 15, 3) := by decide +kernel
theorem dX5_add_25 : decode cX5_add 25 = .ok (.aload_n 0, 1) := by decide +kernel
theorem dX5_add_26 : decode cX5_add 26 = .ok (.getfield 18, 3) := by decide +kernel
theorem dX5_add_29 : decode cX5_add 29 = .ok (.iload_n 2, 1) := by decide +kernel
theorem dX5_add_30 : decode cX5_add 30 = .ok (.iastore, 1) := by decide +kernel
theorem dX5_add_31 : decode cX5_add 31 = .ok (.aload_n 0, 1) := by decide +kernel
theorem dX5_add_32 : decode cX5_add 32 = .ok (.dup, 1) := by decide +kernel
theorem dX5_add_33 : decode cX5_add 33 = .ok (.getfield 18, 3) := by decide +kernel
theorem dX5_add_36 : decode cX5_add 36 = .ok (.iconst 1, 1) := by decide +kernel
theorem dX5_add_37 : decode cX5_add 37 = .ok (.iadd, 1) := by decide +kernel
theorem dX5_add_38 : decode cX5_add 38 = .ok (.putfield 18, 3) := by decide +kernel
theorem dX5_add_41 : decode cX5_add 41 = .ok (.iconst 1, 1) := by decide +kernel
theorem dX5_add_42 : decode cX5_add 42 = .ok (.ireturn, 1) := by decide +kernel
theorem dX5_removePair_0 : decode cX5_removePair 0 = .ok (.aload_n 0, 1) := by decide +kernel
theorem dX5_removePair_1 : decode cX5_removePair 1 = .ok (.iload_n 1, 1) := by decide +kernel
theorem dX5_removePair_2 : decode cX5_removePair 2 = .ok (.iload_n 2, 1) := by decide +kernel
theorem dX5_removePair_3 : decode cX5_removePair 3 = .ok (.invokevirtual 22, 3) := by decide +kernel
theorem dX5_removePair_6 : decode cX5_removePair 6 = .ok (.istore_n 3, 1) := by decide +kernel
theorem dX5_removePair_7 : decode cX5_removePair 7 = .ok (.iload_n 3, 1) := by decide +kernel
theorem dX5_removePair_8 : decode cX5_removePair 8 = .ok (.ifCond .ge 5, 3) := by decide +kernel
theorem dX5_removePair_11 : decode cX5_removePair 11 = .ok (.iconst 0, 1) := by decide +kernel
theorem dX5_removePair_12 : decode cX5_removePair 12 = .ok (.ireturn, 1) := by decide +kernel
theorem dX5_removePair_13 : decode cX5_removePair 13 = .ok (.aload_n 0, 1) := by decide +kernel
theorem dX5_removePair_14 : decode cX5_removePair 14 = .ok (.dup, 1) := by decide +kernel
theorem dX5_removePair_15 : decode cX5_removePair 15 = .ok (.getfield 18, 3) := by decide +kernel
theorem dX5_removePair_18 : decode cX5_removePair 18 = .ok (.iconst 1, 1) := by decide +kernel
theorem dX5_removePair_19 : decode cX5_removePair 19 = .ok (.isub, 1) := by decide +kernel
theorem dX5_removePair_20 : decode cX5_removePair 20 = .ok (.putfield 18, 3) := by decide +kernel
theorem dX5_removePair_23 : decode cX5_removePair 23 = .ok (.iload_n 3, 1) := by decide +kernel
theorem dX5_removePair_24 : decode cX5_removePair 24 = .ok (.istore 4, 2) := by decide +kernel
theorem dX5_removePair_26 : decode cX5_removePair 26 = .ok (.iload 4, 2) := by decide +kernel
theorem dX5_removePair_28 : decode cX5_removePair 28 = .ok (.aload_n 0, 1) := by decide +kernel
theorem dX5_removePair_29 : decode cX5_removePair 29 = .ok (.getfield 18, 3) := by decide +kernel
theorem dX5_removePair_32 : decode cX5_removePair 32 = .ok (.if_icmp .ge 41, 3) := by decide +kernel
theorem dX5_removePair_35 : decode cX5_removePair 35 = .ok (.aload_n 0, 1) := by decide +kernel
theorem dX5_removePair_36 : decode cX5_removePair 36 = .ok (.getfield 9, 3) := by decide +kernel
theorem dX5_removePair_39 : decode cX5_removePair 39 = .ok (.iload 4, 2) := by decide +kernel
theorem dX5_removePair_41 : decode cX5_removePair 41 = .ok (.aload_n 0, 1) := by decide +kernel
theorem dX5_removePair_42 : decode cX5_removePair 42 = .ok (.getfield 9, 3) := by decide +kernel
theorem dX5_removePair_45 : decode cX5_removePair 45 = .ok (.iload 4, 2) := by decide +kernel
theorem dX5_removePair_47 : decode cX5_removePair 47 = .ok (.iconst 1, 1) := by decide +kernel
theorem dX5_removePair_48 : decode cX5_removePair 48 = .ok (.iadd, 1) := by decide +kernel
theorem dX5_removePair_49 : decode cX5_removePair 49 = .ok (.iaload, 1) := by decide +kernel
theorem dX5_removePair_50 : decode cX5_removePair 50 = .ok (.iastore, 1) := by decide +kernel
theorem dX5_removePair_51 : decode cX5_removePair 51 = .ok (.aload_n 0, 1) := by decide +kernel
theorem dX5_removePair_52 : decode cX5_removePair 52 = .ok (.getfield 15, 3) := by decide +kernel
theorem dX5_removePair_55 : decode cX5_removePair 55 = .ok (.iload 4, 2) := by decide +kernel
theorem dX5_removePair_57 : decode cX5_removePair 57 = .ok (.aload_n 0, 1) := by decide +kernel
theorem dX5_removePair_58 : decode cX5_removePair 58 = .ok (.getfield 15, 3) := by decide +kernel
theorem dX5_removePair_61 : decode cX5_removePair 61 = .ok (.iload 4, 2) := by decide +kernel
theorem dX5_removePair_63 : decode cX5_removePair 63 = .ok (.iconst 1, 1) := by decide +kernel
theorem dX5_removePair_64 : decode cX5_removePair 64 = .ok (.iadd, 1) := by decide +kernel
theorem dX5_removePair_65 : decode cX5_removePair 65 = .ok (.iaload, 1) := by decide +kernel
theorem dX5_removePair_66 : decode cX5_removePair 66 = .ok (.iastore, 1) := by decide +kernel
theorem dX5_removePair_67 : decode cX5_removePair 67 = .ok (.iinc 4 1, 3) := by decide +kernel
theorem dX5_removePair_70 : decode cX5_removePair 70 = .ok (.goto (-44), 3) := by decide +kernel
theorem dX5_removePair_73 : decode cX5_removePair 73 = .ok (.iconst 1, 1) := by decide +kernel
theorem dX5_removePair_74 : decode cX5_removePair 74 = .ok (.ireturn, 1) := by decide +kernel
theorem dX5_removeLetter_0 : decode cX5_removeLetter 0 = .ok (.iconst 0, 1) := by decide +kernel
theorem dX5_removeLetter_1 : decode cX5_removeLetter 1 = .ok (.istore_n 2, 1) := by decide +kernel
theorem dX5_removeLetter_2 : decode cX5_removeLetter 2 = .ok (.iconst 0, 1) := by decide +kernel
theorem dX5_removeLetter_3 : decode cX5_removeLetter 3 = .ok (.istore_n 3, 1) := by decide +kernel
theorem dX5_removeLetter_4 : decode cX5_removeLetter 4 = .ok (.iload_n 3, 1) := by decide +kernel
theorem dX5_removeLetter_5 : decode cX5_removeLetter 5 = .ok (.aload_n 0, 1) := by decide +kernel
theorem dX5_removeLetter_6 : decode cX5_removeLetter 6 = .ok (.getfield 18, 3) := by decide +kernel
theorem dX5_removeLetter_9 : decode cX5_removeLetter 9 = .ok (.if_icmp .ge 46, 3) := by decide +kernel
theorem dX5_removeLetter_12 : decode cX5_removeLetter 12 = .ok (.aload_n 0, 1) := by decide +kernel
theorem dX5_removeLetter_13 : decode cX5_removeLetter 13 = .ok (.getfield 9, 3) := by decide +kernel
theorem dX5_removeLetter_16 : decode cX5_removeLetter 16 = .ok (.iload_n 3, 1) := by decide +kernel
theorem dX5_removeLetter_17 : decode cX5_removeLetter 17 = .ok (.iaload, 1) := by decide +kernel
theorem dX5_removeLetter_18 : decode cX5_removeLetter 18 = .ok (.iload_n 1, 1) := by decide +kernel
theorem dX5_removeLetter_19 : decode cX5_removeLetter 19 = .ok (.if_icmp .eq 30, 3) := by decide +kernel
theorem dX5_removeLetter_22 : decode cX5_removeLetter 22 = .ok (.aload_n 0, 1) := by decide +kernel
theorem dX5_removeLetter_23 : decode cX5_removeLetter 23 = .ok (.getfield 9, 3) := by decide +kernel
theorem dX5_removeLetter_26 : decode cX5_removeLetter 26 = .ok (.iload_n 2, 1) := by decide +kernel
theorem dX5_removeLetter_27 : decode cX5_removeLetter 27 = .ok (.aload_n 0, 1) := by decide +kernel
theorem dX5_removeLetter_28 : decode cX5_removeLetter 28 = .ok (.getfield 9, 3) := by decide +kernel
theorem dX5_removeLetter_31 : decode cX5_removeLetter 31 = .ok (.iload_n 3, 1) := by decide +kernel
theorem dX5_removeLetter_32 : decode cX5_removeLetter 32 = .ok (.iaload, 1) := by decide +kernel
theorem dX5_removeLetter_33 : decode cX5_removeLetter 33 = .ok (.iastore, 1) := by decide +kernel
theorem dX5_removeLetter_34 : decode cX5_removeLetter 34 = .ok (.aload_n 0, 1) := by decide +kernel
theorem dX5_removeLetter_35 : decode cX5_removeLetter 35 = .ok (.getfield 15, 3) := by decide +kernel
theorem dX5_removeLetter_38 : decode cX5_removeLetter 38 = .ok (.iload_n 2, 1) := by decide +kernel
theorem dX5_removeLetter_39 : decode cX5_removeLetter 39 = .ok (.aload_n 0, 1) := by decide +kernel
theorem dX5_removeLetter_40 : decode cX5_removeLetter 40 = .ok (.getfield 15, 3) := by decide +kernel
theorem dX5_removeLetter_43 : decode cX5_removeLetter 43 = .ok (.iload_n 3, 1) := by decide +kernel
theorem dX5_removeLetter_44 : decode cX5_removeLetter 44 = .ok (.iaload, 1) := by decide +kernel
theorem dX5_removeLetter_45 : decode cX5_removeLetter 45 = .ok (.iastore, 1) := by decide +kernel
theorem dX5_removeLetter_46 : decode cX5_removeLetter 46 = .ok (.iinc 2 1, 3) := by decide +kernel
theorem dX5_removeLetter_49 : decode cX5_removeLetter 49 = .ok (.iinc 3 1, 3) := by decide +kernel
theorem dX5_removeLetter_52 : decode cX5_removeLetter 52 = .ok (.goto (-48), 3) := by decide +kernel
theorem dX5_removeLetter_55 : decode cX5_removeLetter 55 = .ok (.aload_n 0, 1) := by decide +kernel
theorem dX5_removeLetter_56 : decode cX5_removeLetter 56 = .ok (.getfield 18, 3) := by decide +kernel
theorem dX5_removeLetter_59 : decode cX5_removeLetter 59 = .ok (.iload_n 2, 1) := by decide +kernel
theorem dX5_removeLetter_60 : decode cX5_removeLetter 60 = .ok (.isub, 1) := by decide +kernel
theorem dX5_removeLetter_61 : decode cX5_removeLetter 61 = .ok (.istore_n 3, 1) := by decide +kernel
theorem dX5_removeLetter_62 : decode cX5_removeLetter 62 = .ok (.aload_n 0, 1) := by decide +kernel
theorem dX5_removeLetter_63 : decode cX5_removeLetter 63 = .ok (.iload_n 2, 1) := by decide +kernel
theorem dX5_removeLetter_64 : decode cX5_removeLetter 64 = .ok (.putfield 18, 3) := by decide +kernel
theorem dX5_removeLetter_67 : decode cX5_removeLetter 67 = .ok (.iload_n 3, 1) := by decide +kernel
theorem dX5_removeLetter_68 : decode cX5_removeLetter 68 = .ok (.ireturn, 1) := by decide +kernel
theorem dX6_init_0 : decode cX6_init 0 = .ok (.aload_n 0, 1) := by decide +kernel
theorem dX6_init_1 : decode cX6_init 1 = .ok (.invokespecial 3, 3) := by decide +kernel
theorem dX6_init_4 : decode cX6_init 4 = .ok (.aload_n 0, 1) := by decide +kernel
theorem dX6_init_5 : decode cX6_init 5 = .ok (.bipush 10, 2) := by decide +kernel
theorem dX6_init_7 : decode cX6_init 7 = .ok (.newarray .int, 2) := by decide +kernel
theorem dX6_init_9 : decode cX6_init 9 = .ok (.putfield 9, 3) := by decide +kernel
theorem dX6_init_12 : decode cX6_init 12 = .ok (.aload_n 0, 1) := by decide +kernel
theorem dX6_init_13 : decode cX6_init 13 = .ok (.bipush 8, 2) := by decide +kernel
theorem dX6_init_15 : decode cX6_init 15 = .ok (.newarray .int, 2) := by decide +kernel
theorem dX6_init_17 : decode cX6_init 17 = .ok (.putfield 15, 3) := by decide +kernel
theorem dX6_init_20 : decode cX6_init 20 = .ok (.aload_n 0, 1) := by decide +kernel
theorem dX6_init_21 : decode cX6_init 21 = .ok (.new 18, 3) := by decide +kernel
theorem dX6_init_24 : decode cX6_init 24 = .ok (.dup, 1) := by decide +kernel
theorem dX6_init_25 : decode cX6_init 25 = .ok (.invokespecial 20, 3) := by decide +kernel
theorem dX6_init_28 : decode cX6_init 28 = .ok (.putfield 21, 3) := by decide +kernel
theorem dX6_init_31 : decode cX6_init 31 = .ok (.aload_n 0, 1) := by decide +kernel
theorem dX6_init_32 : decode cX6_init 32 = .ok (.sipush 255, 3) := by decide +kernel
theorem dX6_init_35 : decode cX6_init 35 = .ok (.putfield 25, 3) := by decide +kernel
theorem dX6_init_38 : decode cX6_init 38 = .ok (.aload_n 0, 1) := by decide +kernel
theorem dX6_init_39 : decode cX6_init 39 = .ok (.iconst 4, 1) := by decide +kernel
theorem dX6_init_40 : decode cX6_init 40 = .ok (.putfield 29, 3) := by decide +kernel
theorem dX6_init_43 : decode cX6_init 43 = .ok (.return_, 1) := by decide +kernel
theorem dX6_isThere_0 : decode cX6_isThere 0 = .ok (.iload_n 1, 1) := by decide +kernel
theorem dX6_isThere_1 : decode cX6_isThere 1 = .ok (.ifCond .lt 25, 3) := by decide +kernel
theorem dX6_isThere_4 : decode cX6_isThere 4 = .ok (.iload_n 1, 1) := by decide +kernel
theorem dX6_isThere_5 : decode cX6_isThere 5 = .ok (.bipush 10, 2) := by decide +kernel
theorem dX6_isThere_7 : decode cX6_isThere 7 = .ok (.if_icmp .ge 19, 3) := by decide +kernel
theorem dX6_isThere_10 : decode cX6_isThere 10 = .ok (.aload_n 0, 1) := by decide +kernel
theorem dX6_isThere_11 : decode cX6_isThere 11 = .ok (.getfield 32, 3) := by decide +kernel
theorem dX6_isThere_14 : decode cX6_isThere 14 = .ok (.iload_n 1, 1) := by decide +kernel
theorem dX6_isThere_15 : decode cX6_isThere 15 = .ok (.ishr, 1) := by decide +kernel
theorem dX6_isThere_16 : decode cX6_isThere 16 = .ok (.iconst 1, 1) := by decide +kernel
theorem dX6_isThere_17 : decode cX6_isThere 17 = .ok (.iand, 1) := by decide +kernel
theorem dX6_isThere_18 : decode cX6_isThere 18 = .ok (.iconst 1, 1) := by decide +kernel
theorem dX6_isThere_19 : decode cX6_isThere 19 = .ok (.if_icmp .ne 7, 3) := by decide +kernel
theorem dX6_isThere_22 : decode cX6_isThere 22 = .ok (.iconst 1, 1) := by decide +kernel
theorem dX6_isThere_23 : decode cX6_isThere 23 = .ok (.goto 4, 3) := by decide +kernel
theorem dX6_isThere_26 : decode cX6_isThere 26 = .ok (.iconst 0, 1) := by decide +kernel
theorem dX6_isThere_27 : decode cX6_isThere 27 = .ok (.ireturn, 1) := by decide +kernel
theorem dX6_putLetter_0 : decode cX6_putLetter 0 = .ok (.aload_n 0, 1) := by decide +kernel
theorem dX6_putLetter_1 : decode cX6_putLetter 1 = .ok (.iload_n 1, 1) := by decide +kernel
theorem dX6_putLetter_2 : decode cX6_putLetter 2 = .ok (.invokevirtual 35, 3) := by decide +kernel
theorem dX6_putLetter_5 : decode cX6_putLetter 5 = .ok (.istore_n 3, 1) := by decide +kernel
theorem dX6_putLetter_6 : decode cX6_putLetter 6 = .ok (.aload_n 0, 1) := by decide +kernel
theorem dX6_putLetter_7 : decode cX6_putLetter 7 = .ok (.dup, 1) := by decide +kernel
theorem dX6_putLetter_8 : decode cX6_putLetter 8 = .ok (.getfield 32, 3) := by decide +kernel
theorem dX6_putLetter_11 : decode cX6_putLetter 11 = .ok (.iconst 1, 1) := by decide +kernel
theorem dX6_putLetter_12 : decode cX6_putLetter 12 = .ok (.iload_n 1, 1) := by decide +kernel
theorem dX6_putLetter_13 : decode cX6_putLetter 13 = .ok (.ishl, 1) := by decide +kernel
theorem dX6_putLetter_14 : decode cX6_putLetter 14 = .ok (.ior, 1) := by decide +kernel
theorem dX6_putLetter_15 : decode cX6_putLetter 15 = .ok (.putfield 32, 3) := by decide +kernel
theorem dX6_putLetter_18 : decode cX6_putLetter 18 = .ok (.aload_n 0, 1) := by decide +kernel
theorem dX6_putLetter_19 : decode cX6_putLetter 19 = .ok (.getfield 9, 3) := by decide +kernel
theorem dX6_putLetter_22 : decode cX6_putLetter 22 = .ok (.iload_n 1, 1) := by decide +kernel
theorem dX6_putLetter_23 : decode cX6_putLetter 23 = .ok (.iload_n 2, 1) := by decide +kernel
theorem dX6_putLetter_24 : decode cX6_putLetter 24 = .ok (.iastore, 1) := by decide +kernel
theorem dX6_putLetter_25 : decode cX6_putLetter 25 = .ok (.iload_n 3, 1) := by decide +kernel
theorem dX6_putLetter_26 : decode cX6_putLetter 26 = .ok (.ireturn, 1) := by decide +kernel
theorem dX6_takeLetter_0 : decode cX6_takeLetter 0 = .ok (.aload_n 0, 1) := by decide +kernel
theorem dX6_takeLetter_1 : decode cX6_takeLetter 1 = .ok (.dup, 1) := by decide +kernel
theorem dX6_takeLetter_2 : decode cX6_takeLetter 2 = .ok (.getfield 32, 3) := by decide +kernel
theorem dX6_takeLetter_5 : decode cX6_takeLetter 5 = .ok (.iconst 1, 1) := by decide +kernel
theorem dX6_takeLetter_6 : decode cX6_takeLetter 6 = .ok (.iload_n 1, 1) := by decide +kernel
theorem dX6_takeLetter_7 : decode cX6_takeLetter 7 = .ok (.ishl, 1) := by decide +kernel
theorem dX6_takeLetter_8 : decode cX6_takeLetter 8 = .ok (.iconst (-1), 1) := by decide +kernel
theorem dX6_takeLetter_9 : decode cX6_takeLetter 9 = .ok (.ixor, 1) := by decide +kernel
theorem dX6_takeLetter_10 : decode cX6_takeLetter 10 = .ok (.iand, 1) := by decide +kernel
theorem dX6_takeLetter_11 : decode cX6_takeLetter 11 = .ok (.putfield 32, 3) := by decide +kernel
theorem dX6_takeLetter_14 : decode cX6_takeLetter 14 = .ok (.iconst 0, 1) := by decide +kernel
