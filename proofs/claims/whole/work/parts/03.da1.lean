theorem dX2_leastNewForAll_101 : decode cX2_leastNewForAll 101 = .ok (.istore 6, 2) := by decide +kernel
theorem dX2_leastNewForAll_103 : decode cX2_leastNewForAll 103 = .ok (.iload 6, 2) := by decide +kernel
theorem dX2_leastNewForAll_105 : decode cX2_leastNewForAll 105 = .ok (.iload 5, 2) := by decide +kernel
theorem dX2_leastNewForAll_107 : decode cX2_leastNewForAll 107 = .ok (.if_icmp .ge 34, 3) := by decide +kernel
theorem dX2_leastNewForAll_110 : decode cX2_leastNewForAll 110 = .ok (.aload_n 3, 1) := by decide +kernel
theorem dX2_leastNewForAll_111 : decode cX2_leastNewForAll 111 = .ok (.aload_n 0, 1) := by decide +kernel
theorem dX2_leastNewForAll_112 : decode cX2_leastNewForAll 112 = .ok (.getfield 17, 3) := by decide +kernel
theorem dX2_leastNewForAll_115 : decode cX2_leastNewForAll 115 = .ok (.aload_n 0, 1) := by decide +kernel
theorem dX2_leastNewForAll_116 : decode cX2_leastNewForAll 116 = .ok (.getfield 25, 3) := by decide +kernel
theorem dX2_leastNewForAll_119 : decode cX2_leastNewForAll 119 = .ok (.iload 6, 2) := by decide +kernel
theorem dX2_leastNewForAll_121 : decode cX2_leastNewForAll 121 = .ok (.invokevirtual 67, 3) := by decide +kernel
theorem dX2_leastNewForAll_124 : decode cX2_leastNewForAll 124 = .ok (.aload_n 0, 1) := by decide +kernel
theorem dX2_leastNewForAll_125 : decode cX2_leastNewForAll 125 = .ok (.aload_n 1, 1) := by decide +kernel
theorem dX2_leastNewForAll_126 : decode cX2_leastNewForAll 126 = .ok (.invokevirtual 102, 3) := by decide +kernel
theorem dX2_leastNewForAll_129 : decode cX2_leastNewForAll 129 = .ok (.ifCond .eq 6, 3) := by decide +kernel
theorem dX2_leastNewForAll_132 : decode cX2_leastNewForAll 132 = .ok (.iload 6, 2) := by decide +kernel
theorem dX2_leastNewForAll_134 : decode cX2_leastNewForAll 134 = .ok (.ireturn, 1) := by decide +kernel
theorem dX2_leastNewForAll_135 : decode cX2_leastNewForAll 135 = .ok (.iinc 6 1, 3) := by decide +kernel
theorem dX2_leastNewForAll_138 : decode cX2_leastNewForAll 138 = .ok (.goto (-35), 3) := by decide +kernel
theorem dX2_leastNewForAll_141 : decode cX2_leastNewForAll 141 = .ok (.bipush (-9), 2) := by decide +kernel
theorem dX2_leastNewForAll_143 : decode cX2_leastNewForAll 143 = .ok (.ireturn, 1) := by decide +kernel
theorem dX2_countMixes_0 : decode cX2_countMixes 0 = .ok (.iconst 1, 1) := by decide +kernel
theorem dX2_countMixes_1 : decode cX2_countMixes 1 = .ok (.istore_n 2, 1) := by decide +kernel
theorem dX2_countMixes_2 : decode cX2_countMixes 2 = .ok (.iconst 0, 1) := by decide +kernel
theorem dX2_countMixes_3 : decode cX2_countMixes 3 = .ok (.istore_n 3, 1) := by decide +kernel
theorem dX2_countMixes_4 : decode cX2_countMixes 4 = .ok (.iload_n 3, 1) := by decide +kernel
theorem dX2_countMixes_5 : decode cX2_countMixes 5 = .ok (.iload_n 1, 1) := by decide +kernel
theorem dX2_countMixes_6 : decode cX2_countMixes 6 = .ok (.if_icmp .ge 24, 3) := by decide +kernel
theorem dX2_countMixes_9 : decode cX2_countMixes 9 = .ok (.iload_n 3, 1) := by decide +kernel
theorem dX2_countMixes_10 : decode cX2_countMixes 10 = .ok (.iconst 5, 1) := by decide +kernel
theorem dX2_countMixes_11 : decode cX2_countMixes 11 = .ok (.if_icmp .ge 19, 3) := by decide +kernel
theorem dX2_countMixes_14 : decode cX2_countMixes 14 = .ok (.iload_n 2, 1) := by decide +kernel
theorem dX2_countMixes_15 : decode cX2_countMixes 15 = .ok (.aload_n 0, 1) := by decide +kernel
theorem dX2_countMixes_16 : decode cX2_countMixes 16 = .ok (.getfield 25, 3) := by decide +kernel
theorem dX2_countMixes_19 : decode cX2_countMixes 19 = .ok (.getfield 82, 3) := by decide +kernel
theorem dX2_countMixes_22 : decode cX2_countMixes 22 = .ok (.imul, 1) := by decide +kernel
theorem dX2_countMixes_23 : decode cX2_countMixes 23 = .ok (.istore_n 2, 1) := by decide +kernel
theorem dX2_countMixes_24 : decode cX2_countMixes 24 = .ok (.iinc 3 1, 3) := by decide +kernel
theorem dX2_countMixes_27 : decode cX2_countMixes 27 = .ok (.goto (-23), 3) := by decide +kernel
theorem dX2_countMixes_30 : decode cX2_countMixes 30 = .ok (.iload_n 2, 1) := by decide +kernel
theorem dX2_countMixes_31 : decode cX2_countMixes 31 = .ok (.ireturn, 1) := by decide +kernel
theorem dX2_raisesAll_0 : decode cX2_raisesAll 0 = .ok (.iconst 0, 1) := by decide +kernel
theorem dX2_raisesAll_1 : decode cX2_raisesAll 1 = .ok (.istore_n 2, 1) := by decide +kernel
theorem dX2_raisesAll_2 : decode cX2_raisesAll 2 = .ok (.iload_n 2, 1) := by decide +kernel
theorem dX2_raisesAll_3 : decode cX2_raisesAll 3 = .ok (.iconst 4, 1) := by decide +kernel
theorem dX2_raisesAll_4 : decode cX2_raisesAll 4 = .ok (.if_icmp .ge 40, 3) := by decide +kernel
theorem dX2_raisesAll_7 : decode cX2_raisesAll 7 = .ok (.aload_n 0, 1) := by decide +kernel
theorem dX2_raisesAll_8 : decode cX2_raisesAll 8 = .ok (.getfield 21, 3) := by decide +kernel
theorem dX2_raisesAll_11 : decode cX2_raisesAll 11 = .ok (.iload_n 2, 1) := by decide +kernel
theorem dX2_raisesAll_12 : decode cX2_raisesAll 12 = .ok (.baload, 1) := by decide +kernel
theorem dX2_raisesAll_13 : decode cX2_raisesAll 13 = .ok (.ifCond .eq 25, 3) := by decide +kernel
theorem dX2_raisesAll_16 : decode cX2_raisesAll 16 = .ok (.aload_n 1, 1) := by decide +kernel
theorem dX2_raisesAll_17 : decode cX2_raisesAll 17 = .ok (.getfield 44, 3) := by decide +kernel
theorem dX2_raisesAll_20 : decode cX2_raisesAll 20 = .ok (.iload_n 2, 1) := by decide +kernel
theorem dX2_raisesAll_21 : decode cX2_raisesAll 21 = .ok (.aaload, 1) := by decide +kernel
theorem dX2_raisesAll_22 : decode cX2_raisesAll 22 = .ok (.aload_n 0, 1) := by decide +kernel
theorem dX2_raisesAll_23 : decode cX2_raisesAll 23 = .ok (.getfield 17, 3) := by decide +kernel
theorem dX2_raisesAll_26 : decode cX2_raisesAll 26 = .ok (.aload_n 0, 1) := by decide +kernel
theorem dX2_raisesAll_27 : decode cX2_raisesAll 27 = .ok (.getfield 25, 3) := by decide +kernel
theorem dX2_raisesAll_30 : decode cX2_raisesAll 30 = .ok (.invokevirtual 78, 3) := by decide +kernel
theorem dX2_raisesAll_33 : decode cX2_raisesAll 33 = .ok (.ifCond .ge 5, 3) := by decide +kernel
theorem dX2_raisesAll_36 : decode cX2_raisesAll 36 = .ok (.iconst 0, 1) := by decide +kernel
theorem dX2_raisesAll_37 : decode cX2_raisesAll 37 = .ok (.ireturn, 1) := by decide +kernel
theorem dX2_raisesAll_38 : decode cX2_raisesAll 38 = .ok (.iinc 2 1, 3) := by decide +kernel
theorem dX2_raisesAll_41 : decode cX2_raisesAll 41 = .ok (.goto (-39), 3) := by decide +kernel
theorem dX2_raisesAll_44 : decode cX2_raisesAll 44 = .ok (.iconst 1, 1) := by decide +kernel
theorem dX2_raisesAll_45 : decode cX2_raisesAll 45 = .ok (.ireturn, 1) := by decide +kernel
theorem dX2_takeOutDone_0 : decode cX2_takeOutDone 0 = .ok (.iconst 0, 1) := by decide +kernel
theorem dX2_takeOutDone_1 : decode cX2_takeOutDone 1 = .ok (.istore_n 1, 1) := by decide +kernel
theorem dX2_takeOutDone_2 : decode cX2_takeOutDone 2 = .ok (.iconst 0, 1) := by decide +kernel
theorem dX2_takeOutDone_3 : decode cX2_takeOutDone 3 = .ok (.istore_n 2, 1) := by decide +kernel
theorem dX2_takeOutDone_4 : decode cX2_takeOutDone 4 = .ok (.iload_n 2, 1) := by decide +kernel
theorem dX2_takeOutDone_5 : decode cX2_takeOutDone 5 = .ok (.aload_n 0, 1) := by decide +kernel
theorem dX2_takeOutDone_6 : decode cX2_takeOutDone 6 = .ok (.getfield 30, 3) := by decide +kernel
theorem dX2_takeOutDone_9 : decode cX2_takeOutDone 9 = .ok (.if_icmp .ge 50, 3) := by decide +kernel
theorem dX2_takeOutDone_12 : decode cX2_takeOutDone 12 = .ok (.aload_n 0, 1) := by decide +kernel
theorem dX2_takeOutDone_13 : decode cX2_takeOutDone 13 = .ok (.getfield 11, 3) := by decide +kernel
theorem dX2_takeOutDone_16 : decode cX2_takeOutDone 16 = .ok (.iload_n 2, 1) := by decide +kernel
theorem dX2_takeOutDone_17 : decode cX2_takeOutDone 17 = .ok (.aaload, 1) := by decide +kernel
theorem dX2_takeOutDone_18 : decode cX2_takeOutDone 18 = .ok (.invokevirtual 106, 3) := by decide +kernel
theorem dX2_takeOutDone_21 : decode cX2_takeOutDone 21 = .ok (.ifCond .ne 32, 3) := by decide +kernel
theorem dX2_takeOutDone_24 : decode cX2_takeOutDone 24 = .ok (.aload_n 0, 1) := by decide +kernel
theorem dX2_takeOutDone_25 : decode cX2_takeOutDone 25 = .ok (.getfield 11, 3) := by decide +kernel
theorem dX2_takeOutDone_28 : decode cX2_takeOutDone 28 = .ok (.iload_n 2, 1) := by decide +kernel
theorem dX2_takeOutDone_29 : decode cX2_takeOutDone 29 = .ok (.aaload, 1) := by decide +kernel
theorem dX2_takeOutDone_30 : decode cX2_takeOutDone 30 = .ok (.astore_n 3, 1) := by decide +kernel
theorem dX2_takeOutDone_31 : decode cX2_takeOutDone 31 = .ok (.aload_n 0, 1) := by decide +kernel
theorem dX2_takeOutDone_32 : decode cX2_takeOutDone 32 = .ok (.getfield 11, 3) := by decide +kernel
theorem dX2_takeOutDone_35 : decode cX2_takeOutDone 35 = .ok (.iload_n 2, 1) := by decide +kernel
theorem dX2_takeOutDone_36 : decode cX2_takeOutDone 36 = .ok (.aload_n 0, 1) := by decide +kernel
theorem dX2_takeOutDone_37 : decode cX2_takeOutDone 37 = .ok (.getfield 11, 3) := by decide +kernel
theorem dX2_takeOutDone_40 : decode cX2_takeOutDone 40 = .ok (.iload_n 1, 1) := by decide +kernel
theorem dX2_takeOutDone_41 : decode cX2_takeOutDone 41 = .ok (.aaload, 1) := by decide +kernel
theorem dX2_takeOutDone_42 : decode cX2_takeOutDone 42 = .ok (.aastore, 1) := by decide +kernel
theorem dX2_takeOutDone_43 : decode cX2_takeOutDone 43 = .ok (.aload_n 0, 1) := by decide +kernel
theorem dX2_takeOutDone_44 : decode cX2_takeOutDone 44 = .ok (.getfield 11, 3) := by decide +kernel
theorem dX2_takeOutDone_47 : decode cX2_takeOutDone 47 = .ok (.iload_n 1, 1) := by decide +kernel
theorem dX2_takeOutDone_48 : decode cX2_takeOutDone 48 = .ok (.aload_n 3, 1) := by decide +kernel
theorem dX2_takeOutDone_49 : decode cX2_takeOutDone 49 = .ok (.aastore, 1) := by decide +kernel
theorem dX2_takeOutDone_50 : decode cX2_takeOutDone 50 = .ok (.iinc 1 1, 3) := by decide +kernel
theorem dX2_takeOutDone_53 : decode cX2_takeOutDone 53 = .ok (.iinc 2 1, 3) := by decide +kernel
theorem dX2_takeOutDone_56 : decode cX2_takeOutDone 56 = .ok (.goto (-52), 3) := by decide +kernel
theorem dX2_takeOutDone_59 : decode cX2_takeOutDone 59 = .ok (.aload_n 0, 1) := by decide +kernel
theorem dX2_takeOutDone_60 : decode cX2_takeOutDone 60 = .ok (.getfield 30, 3) := by decide +kernel
theorem dX2_takeOutDone_63 : decode cX2_takeOutDone 63 = .ok (.iload_n 1, 1) := by decide +kernel
theorem dX2_takeOutDone_64 : decode cX2_takeOutDone 64 = .ok (.isub, 1) := by decide +kernel
theorem dX2_takeOutDone_65 : decode cX2_takeOutDone 65 = .ok (.istore_n 2, 1) := by decide +kernel
theorem dX2_takeOutDone_66 : decode cX2_takeOutDone 66 = .ok (.aload_n 0, 1) := by decide +kernel
theorem dX2_takeOutDone_67 : decode cX2_takeOutDone 67 = .ok (.iload_n 1, 1) := by decide +kernel
theorem dX2_takeOutDone_68 : decode cX2_takeOutDone 68 = .ok (.putfield 30, 3) := by decide +kernel
theorem dX2_takeOutDone_71 : decode cX2_takeOutDone 71 = .ok (.iload_n 2, 1) := by decide +kernel
theorem dX2_takeOutDone_72 : decode cX2_takeOutDone 72 = .ok (.ireturn, 1) := by decide +kernel
theorem dX3_init_0 : decode cX3_init 0 = .ok (.aload_n 0, 1) := by decide +kernel
theorem dX3_init_1 : decode cX3_init 1 = .ok (.invokespecial 3, 3) := by decide +kernel
theorem dX3_init_4 : decode cX3_init 4 = .ok (.aload_n 0, 1) := by decide +kernel
theorem dX3_init_5 : decode cX3_init 5 = .ok (.iconst 5, 1) := by decide +kernel
theorem dX3_init_6 : decode cX3_init 6 = .ok (.bipush 8, 2) := by decide +kernel
theorem dX3_init_8 : decode cX3_init 8 = .ok (.multianewarray 9 2, 4) := by decide +kernel
theorem dX3_init_12 : decode cX3_init 12 = .ok (.putfield 11, 3) := by decide +kernel
theorem dX3_init_15 : decode cX3_init 15 = .ok (.aload_n 0, 1) := by decide +kernel
theorem dX3_init_16 : decode cX3_init 16 = .ok (.iconst 5, 1) := by decide +kernel
theorem dX3_init_17 : decode cX3_init 17 = .ok (.newarray .boolean, 2) := by decide +kernel
theorem dX3_init_19 : decode cX3_init 19 = .ok (.putfield 16, 3) := by decide +kernel
theorem dX3_init_22 : decode cX3_init 22 = .ok (.return_, 1) := by decide +kernel
theorem dX3_clear_0 : decode cX3_clear 0 = .ok (.iconst 0, 1) := by decide +kernel
theorem dX3_clear_1 : decode cX3_clear 1 = .ok (.istore_n 1, 1) := by decide +kernel
theorem dX3_clear_2 : decode cX3_clear 2 = .ok (.iload_n 1, 1) := by decide +kernel
theorem dX3_clear_3 : decode cX3_clear 3 = .ok (.iconst 5, 1) := by decide +kernel
theorem dX3_clear_4 : decode cX3_clear 4 = .ok (.if_icmp .ge 16, 3) := by decide +kernel
theorem dX3_clear_7 : decode cX3_clear 7 = .ok (.aload_n 0, 1) := by decide +kernel
theorem dX3_clear_8 : decode cX3_clear 8 = .ok (.getfield 16, 3) := by decide +kernel
theorem dX3_clear_11 : decode cX3_clear 11 = .ok (.iload_n 1, 1) := by decide +kernel
theorem dX3_clear_12 : decode cX3_clear 12 = .ok (.iconst 0, 1) := by decide +kernel
theorem dX3_clear_13 : decode cX3_clear 13 = .ok (.bastore, 1) := by decide +kernel
theorem dX3_clear_14 : decode cX3_clear 14 = .ok (.iinc 1 1, 3) := by decide +kernel
theorem dX3_clear_17 : decode cX3_clear 17 = .ok (.goto (-15), 3) := by decide +kernel
theorem dX3_clear_20 : decode cX3_clear 20 = .ok (.return_, 1) := by decide +kernel
theorem dX3_height_0 : decode cX3_height 0 = .ok (.iconst 0, 1) := by decide +kernel
theorem dX3_height_1 : decode cX3_height 1 = .ok (.istore_n 1, 1) := by decide +kernel
theorem dX3_height_2 : decode cX3_height 2 = .ok (.iconst 0, 1) := by decide +kernel
theorem dX3_height_3 : decode cX3_height 3 = .ok (.istore_n 2, 1) := by decide +kernel
theorem dX3_height_4 : decode cX3_height 4 = .ok (.iload_n 2, 1) := by decide +kernel
theorem dX3_height_5 : decode cX3_height 5 = .ok (.iconst 5, 1) := by decide +kernel
theorem dX3_height_6 : decode cX3_height 6 = .ok (.if_icmp .ge 21, 3) := by decide +kernel
theorem dX3_height_9 : decode cX3_height 9 = .ok (.aload_n 0, 1) := by decide +kernel
theorem dX3_height_10 : decode cX3_height 10 = .ok (.getfield 16, 3) := by decide +kernel
theorem dX3_height_13 : decode cX3_height 13 = .ok (.iload_n 2, 1) := by decide +kernel
theorem dX3_height_14 : decode cX3_height 14 = .ok (.baload, 1) := by decide +kernel
theorem dX3_height_15 : decode cX3_height 15 = .ok (.ifCond .eq 6, 3) := by decide +kernel
theorem dX3_height_18 : decode cX3_height 18 = .ok (.iinc 1 1, 3) := by decide +kernel
theorem dX3_height_21 : decode cX3_height 21 = .ok (.iinc 2 1, 3) := by decide +kernel
theorem dX3_height_24 : decode cX3_height 24 = .ok (.goto (-20), 3) := by decide +kernel
theorem dX3_height_27 : decode cX3_height 27 = .ok (.iload_n 1, 1) := by decide +kernel
theorem dX3_height_28 : decode cX3_height 28 = .ok (.ireturn, 1) := by decide +kernel
theorem dX3_placeOf_0 : decode cX3_placeOf 0 = .ok (.iconst 0, 1) := by decide +kernel
theorem dX3_placeOf_1 : decode cX3_placeOf 1 = .ok (.istore_n 2, 1) := by decide +kernel
theorem dX3_placeOf_2 : decode cX3_placeOf 2 = .ok (.iconst 0, 1) := by decide +kernel
theorem dX3_placeOf_3 : decode cX3_placeOf 3 = .ok (.istore_n 3, 1) := by decide +kernel
theorem dX3_placeOf_4 : decode cX3_placeOf 4 = .ok (.iload_n 3, 1) := by decide +kernel
theorem dX3_placeOf_5 : decode cX3_placeOf 5 = .ok (.iconst 5, 1) := by decide +kernel
theorem dX3_placeOf_6 : decode cX3_placeOf 6 = .ok (.if_icmp .ge 28, 3) := by decide +kernel
theorem dX3_placeOf_9 : decode cX3_placeOf 9 = .ok (.aload_n 0, 1) := by decide +kernel
theorem dX3_placeOf_10 : decode cX3_placeOf 10 = .ok (.getfield 16, 3) := by decide +kernel
theorem dX3_placeOf_13 : decode cX3_placeOf 13 = .ok (.iload_n 3, 1) := by decide +kernel
theorem dX3_placeOf_14 : decode cX3_placeOf 14 = .ok (.baload, 1) := by decide +kernel
theorem dX3_placeOf_15 : decode cX3_placeOf 15 = .ok (.ifCond .eq 13, 3) := by decide +kernel
theorem dX3_placeOf_18 : decode cX3_placeOf 18 = .ok (.iload_n 2, 1) := by decide +kernel
theorem dX3_placeOf_19 : decode cX3_placeOf 19 = .ok (.iload_n 1, 1) := by decide +kernel
theorem dX3_placeOf_20 : decode cX3_placeOf 20 = .ok (.if_icmp .ne 5, 3) := by decide +kernel
theorem dX3_placeOf_23 : decode cX3_placeOf 23 = .ok (.iload_n 3, 1) := by decide +kernel
theorem dX3_placeOf_24 : decode cX3_placeOf 24 = .ok (.ireturn, 1) := by decide +kernel
theorem dX3_placeOf_25 : decode cX3_placeOf 25 = .ok (.iinc 2 1, 3) := by decide +kernel
theorem dX3_placeOf_28 : decode cX3_placeOf 28 = .ok (.iinc 3 1, 3) := by decide +kernel
theorem dX3_placeOf_31 : decode cX3_placeOf 31 = .ok (.goto (-27), 3) := by decide +kernel
theorem dX3_placeOf_34 : decode cX3_placeOf 34 = .ok (.iconst (-1), 1) := by decide +kernel
theorem dX3_placeOf_35 : decode cX3_placeOf 35 = .ok (.ireturn, 1) := by decide +kernel
theorem dX3_cell_0 : decode cX3_cell 0 = .ok (.iload_n 1, 1) := by decide +kernel
theorem dX3_cell_1 : decode cX3_cell 1 = .ok (.ifCond .lt 22, 3) := by decide +kernel
theorem dX3_cell_4 : decode cX3_cell 4 = .ok (.iload_n 1, 1) := by decide +kernel
theorem dX3_cell_5 : decode cX3_cell 5 = .ok (.iconst 5, 1) := by decide +kernel
theorem dX3_cell_6 : decode cX3_cell 6 = .ok (.if_icmp .ge 17, 3) := by decide +kernel
theorem dX3_cell_9 : decode cX3_cell 9 = .ok (.iload_n 2, 1) := by decide +kernel
theorem dX3_cell_10 : decode cX3_cell 10 = .ok (.ifCond .lt 13, 3) := by decide +kernel
theorem dX3_cell_13 : decode cX3_cell 13 = .ok (.iload_n 2, 1) := by decide +kernel
theorem dX3_cell_14 : decode cX3_cell 14 = .ok (.bipush 8, 2) := by decide +kernel
theorem dX3_cell_16 : decode cX3_cell 16 = .ok (.if_icmp .ge 7, 3) := by decide +kernel
theorem dX3_cell_19 : decode cX3_cell 19 = .ok (.iconst 1, 1) := by decide +kernel
theorem dX3_cell_20 : decode cX3_cell 20 = .ok (.goto 4, 3) := by decide +kernel
theorem dX3_cell_23 : decode cX3_cell 23 = .ok (.iconst 0, 1) := by decide +kernel
theorem dX3_cell_24 : decode cX3_cell 24 = .ok (.istore_n 3, 1) := by decide +kernel
theorem dX3_cell_25 : decode cX3_cell 25 = .ok (.iload_n 3, 1) := by decide +kernel
theorem dX3_cell_26 : decode cX3_cell 26 = .ok (.ifCond .eq 14, 3) := by decide +kernel
theorem dX3_cell_29 : decode cX3_cell 29 = .ok (.aload_n 0, 1) := by decide +kernel
theorem dX3_cell_30 : decode cX3_cell 30 = .ok (.getfield 11, 3) := by decide +kernel
theorem dX3_cell_33 : decode cX3_cell 33 = .ok (.iload_n 1, 1) := by decide +kernel
theorem dX3_cell_34 : decode cX3_cell 34 = .ok (.aaload, 1) := by decide +kernel
theorem dX3_cell_35 : decode cX3_cell 35 = .ok (.iload_n 2, 1) := by decide +kernel
theorem dX3_cell_36 : decode cX3_cell 36 = .ok (.iaload, 1) := by decide +kernel
theorem dX3_cell_37 : decode cX3_cell 37 = .ok (.goto 4, 3) := by decide +kernel
theorem dX3_cell_40 : decode cX3_cell 40 = .ok (.iconst 0, 1) := by decide +kernel
theorem dX3_cell_41 : decode cX3_cell 41 = .ok (.ireturn, 1) := by decide +kernel
theorem dX3_knows_0 : decode cX3_knows 0 = .ok (.iload_n 1, 1) := by decide +kernel
theorem dX3_knows_1 : decode cX3_knows 1 = .ok (.ifCond .lt 17, 3) := by decide +kernel
theorem dX3_knows_4 : decode cX3_knows 4 = .ok (.iload_n 1, 1) := by decide +kernel
theorem dX3_knows_5 : decode cX3_knows 5 = .ok (.iconst 5, 1) := by decide +kernel
theorem dX3_knows_6 : decode cX3_knows 6 = .ok (.if_icmp .ge 12, 3) := by decide +kernel
theorem dX3_knows_9 : decode cX3_knows 9 = .ok (.aload_n 0, 1) := by decide +kernel
theorem dX3_knows_10 : decode cX3_knows 10 = .ok (.getfield 16, 3) := by decide +kernel
theorem dX3_knows_13 : decode cX3_knows 13 = .ok (.iload_n 1, 1) := by decide +kernel
theorem dX3_knows_14 : decode cX3_knows 14 = .ok (.baload, 1) := by decide +kernel
theorem dX3_knows_15 : decode cX3_knows 15 = .ok (.ifCond .ne 5, 3) := by decide +kernel
theorem dX3_knows_18 : decode cX3_knows 18 = .ok (.iconst 0, 1) := by decide +kernel
theorem dX3_knows_19 : decode cX3_knows 19 = .ok (.ireturn, 1) := by decide +kernel
theorem dX3_knows_20 : decode cX3_knows 20 = .ok (.iload_n 1, 1) := by decide +kernel
theorem dX3_knows_21 : decode cX3_knows 21 = .ok (.iconst 1, 1) := by decide +kernel
theorem dX3_knows_22 : decode cX3_knows 22 = .ok (.iadd, 1) := by decide +kernel
theorem dX3_knows_23 : decode cX3_knows 23 = .ok (.istore_n 2, 1) := by decide +kernel
theorem dX3_knows_24 : decode cX3_knows 24 = .ok (.iload_n 2, 1) := by decide +kernel
theorem dX3_knows_25 : decode cX3_knows 25 = .ok (.iconst 5, 1) := by decide +kernel
theorem dX3_knows_26 : decode cX3_knows 26 = .ok (.if_icmp .ge 22, 3) := by decide +kernel
theorem dX3_knows_29 : decode cX3_knows 29 = .ok (.aload_n 0, 1) := by decide +kernel
theorem dX3_knows_30 : decode cX3_knows 30 = .ok (.getfield 11, 3) := by decide +kernel
theorem dX3_knows_33 : decode cX3_knows 33 = .ok (.iload_n 1, 1) := by decide +kernel
theorem dX3_knows_34 : decode cX3_knows 34 = .ok (.aaload, 1) := by decide +kernel
theorem dX3_knows_35 : decode cX3_knows 35 = .ok (.iload_n 2, 1) := by decide +kernel
theorem dX3_knows_36 : decode cX3_knows 36 = .ok (.iaload, 1) := by decide +kernel
theorem dX3_knows_37 : decode cX3_knows 37 = .ok (.ifCond .eq 5, 3) := by decide +kernel
theorem dX3_knows_40 : decode cX3_knows 40 = .ok (.iconst 0, 1) := by decide +kernel
theorem dX3_knows_41 : decode cX3_knows 41 = .ok (.ireturn, 1) := by decide +kernel
theorem dX3_knows_42 : decode cX3_knows 42 = .ok (.iinc 2 1, 3) := by decide +kernel
theorem dX3_knows_45 : decode cX3_knows 45 = .ok (.goto (-21), 3) := by decide +kernel
theorem dX3_knows_48 : decode cX3_knows 48 = .ok (.iconst 1, 1) := by decide +kernel
theorem dX3_knows_49 : decode cX3_knows 49 = .ok (.ireturn, 1) := by decide +kernel
theorem dX3_mixInto_0 : decode cX3_mixInto 0 = .ok (.iconst 0, 1) := by decide +kernel
theorem dX3_mixInto_1 : decode cX3_mixInto 1 = .ok (.istore 4, 2) := by decide +kernel
theorem dX3_mixInto_3 : decode cX3_mixInto 3 = .ok (.iload 4, 2) := by decide +kernel
theorem dX3_mixInto_5 : decode cX3_mixInto 5 = .ok (.bipush 8, 2) := by decide +kernel
theorem dX3_mixInto_7 : decode cX3_mixInto 7 = .ok (.if_icmp .ge 14, 3) := by decide +kernel
theorem dX3_mixInto_10 : decode cX3_mixInto 10 = .ok (.aload_n 1, 1) := by decide +kernel
theorem dX3_mixInto_11 : decode cX3_mixInto 11 = .ok (.iload 4, 2) := by decide +kernel
theorem dX3_mixInto_13 : decode cX3_mixInto 13 = .ok (.iconst 0, 1) := by decide +kernel
theorem dX3_mixInto_14 : decode cX3_mixInto 14 = .ok (.iastore, 1) := by decide +kernel
theorem dX3_mixInto_15 : decode cX3_mixInto 15 = .ok (.iinc 4 1, 3) := by decide +kernel
theorem dX3_mixInto_18 : decode cX3_mixInto 18 = .ok (.goto (-15), 3) := by decide +kernel
theorem dX3_mixInto_21 : decode cX3_mixInto 21 = .ok (.iload_n 3, 1) := by decide +kernel
theorem dX3_mixInto_22 : decode cX3_mixInto 22 = .ok (.istore 4, 2) := by decide +kernel
theorem dX3_mixInto_24 : decode cX3_mixInto 24 = .ok (.iconst 0, 1) := by decide +kernel
theorem dX3_mixInto_25 : decode cX3_mixInto 25 = .ok (.istore 5, 2) := by decide +kernel
theorem dX3_mixInto_27 : decode cX3_mixInto 27 = .ok (.iload 5, 2) := by decide +kernel
theorem dX3_mixInto_29 : decode cX3_mixInto 29 = .ok (.iconst 5, 1) := by decide +kernel
theorem dX3_mixInto_30 : decode cX3_mixInto 30 = .ok (.if_icmp .ge 45, 3) := by decide +kernel
theorem dX3_mixInto_33 : decode cX3_mixInto 33 = .ok (.aload_n 0, 1) := by decide +kernel
theorem dX3_mixInto_34 : decode cX3_mixInto 34 = .ok (.getfield 16, 3) := by decide +kernel
theorem dX3_mixInto_37 : decode cX3_mixInto 37 = .ok (.iload 5, 2) := by decide +kernel
theorem dX3_mixInto_39 : decode cX3_mixInto 39 = .ok (.baload, 1) := by decide +kernel
theorem dX3_mixInto_40 : decode cX3_mixInto 40 = .ok (.ifCond .eq 29, 3) := by decide +kernel
theorem dX3_mixInto_43 : decode cX3_mixInto 43 = .ok (.aload_n 1, 1) := by decide +kernel
theorem dX3_mixInto_44 : decode cX3_mixInto 44 = .ok (.aload_n 2, 1) := by decide +kernel
theorem dX3_mixInto_45 : decode cX3_mixInto 45 = .ok (.aload_n 2, 1) := by decide +kernel
theorem dX3_mixInto_46 : decode cX3_mixInto 46 = .ok (.iload 4, 2) := by decide +kernel
theorem dX3_mixInto_48 : decode cX3_mixInto 48 = .ok (.invokevirtual 20, 3) := by decide +kernel
theorem dX3_mixInto_51 : decode cX3_mixInto 51 = .ok (.aload_n 0, 1) := by decide +kernel
theorem dX3_mixInto_52 : decode cX3_mixInto 52 = .ok (.getfield 11, 3) := by decide +kernel
theorem dX3_mixInto_55 : decode cX3_mixInto 55 = .ok (.iload 5, 2) := by decide +kernel
theorem dX3_mixInto_57 : decode cX3_mixInto 57 = .ok (.aaload, 1) := by decide +kernel
theorem dX3_mixInto_58 : decode cX3_mixInto 58 = .ok (.invokestatic 26, 3) := by decide +kernel
theorem dX3_mixInto_61 : decode cX3_mixInto 61 = .ok (.aload_n 2, 1) := by decide +kernel
theorem dX3_mixInto_62 : decode cX3_mixInto 62 = .ok (.iload 4, 2) := by decide +kernel
theorem dX3_mixInto_64 : decode cX3_mixInto 64 = .ok (.invokevirtual 30, 3) := by decide +kernel
theorem dX3_mixInto_67 : decode cX3_mixInto 67 = .ok (.istore 4, 2) := by decide +kernel
theorem dX3_mixInto_69 : decode cX3_mixInto 69 = .ok (.iinc 5 1, 3) := by decide +kernel
theorem dX3_mixInto_72 : decode cX3_mixInto 72 = .ok (.goto (-45), 3) := by decide +kernel
theorem dX3_mixInto_75 : decode cX3_mixInto 75 = .ok (.return_, 1) := by decide +kernel
theorem dX3_leftover_0 : decode cX3_leftover 0 = .ok (.aload_n 1, 1) := by decide +kernel
theorem dX3_leftover_1 : decode cX3_leftover 1 = .ok (.iload_n 3, 1) := by decide +kernel
theorem dX3_leftover_2 : decode cX3_leftover 2 = .ok (.iaload, 1) := by decide +kernel
theorem dX3_leftover_3 : decode cX3_leftover 3 = .ok (.istore 4, 2) := by decide +kernel
theorem dX3_leftover_5 : decode cX3_leftover 5 = .ok (.iconst 0, 1) := by decide +kernel
theorem dX3_leftover_6 : decode cX3_leftover 6 = .ok (.istore 5, 2) := by decide +kernel
theorem dX3_leftover_8 : decode cX3_leftover 8 = .ok (.iload 5, 2) := by decide +kernel
theorem dX3_leftover_10 : decode cX3_leftover 10 = .ok (.iconst 5, 1) := by decide +kernel
theorem dX3_leftover_11 : decode cX3_leftover 11 = .ok (.if_icmp .ge 38, 3) := by decide +kernel
theorem dX3_leftover_14 : decode cX3_leftover 14 = .ok (.aload_n 0, 1) := by decide +kernel
theorem dX3_leftover_15 : decode cX3_leftover 15 = .ok (.getfield 16, 3) := by decide +kernel
theorem dX3_leftover_18 : decode cX3_leftover 18 = .ok (.iload 5, 2) := by decide +kernel
theorem dX3_leftover_20 : decode cX3_leftover 20 = .ok (.baload, 1) := by decide +kernel
theorem dX3_leftover_21 : decode cX3_leftover 21 = .ok (.ifCond .eq 22, 3) := by decide +kernel
theorem dX3_leftover_24 : decode cX3_leftover 24 = .ok (.iload 4, 2) := by decide +kernel
theorem dX3_leftover_26 : decode cX3_leftover 26 = .ok (.aload_n 1, 1) := by decide +kernel
theorem dX3_leftover_27 : decode cX3_leftover 27 = .ok (.iload 5, 2) := by decide +kernel
theorem dX3_leftover_29 : decode cX3_leftover 29 = .ok (.iaload, 1) := by decide +kernel
theorem dX3_leftover_30 : decode cX3_leftover 30 = .ok (.aload_n 0, 1) := by decide +kernel
theorem dX3_leftover_31 : decode cX3_leftover 31 = .ok (.getfield 11, 3) := by decide +kernel
theorem dX3_leftover_34 : decode cX3_leftover 34 = .ok (.iload 5, 2) := by decide +kernel
theorem dX3_leftover_36 : decode cX3_leftover 36 = .ok (.aaload, 1) := by decide +kernel
theorem dX3_leftover_37 : decode cX3_leftover 37 = .ok (.iload_n 3, 1) := by decide +kernel
theorem dX3_leftover_38 : decode cX3_leftover 38 = .ok (.iaload, 1) := by decide +kernel
theorem dX3_leftover_39 : decode cX3_leftover 39 = .ok (.imul, 1) := by decide +kernel
theorem dX3_leftover_40 : decode cX3_leftover 40 = .ok (.isub, 1) := by decide +kernel
theorem dX3_leftover_41 : decode cX3_leftover 41 = .ok (.istore 4, 2) := by decide +kernel
theorem dX3_leftover_43 : decode cX3_leftover 43 = .ok (.iinc 5 1, 3) := by decide +kernel
theorem dX3_leftover_46 : decode cX3_leftover 46 = .ok (.goto (-38), 3) := by decide +kernel
theorem dX3_leftover_49 : decode cX3_leftover 49 = .ok (.aload_n 2, 1) := by decide +kernel
theorem dX3_leftover_50 : decode cX3_leftover 50 = .ok (.iload 4, 2) := by decide +kernel
theorem dX3_leftover_52 : decode cX3_leftover 52 = .ok (.invokevirtual 20, 3) := by decide +kernel
theorem dX3_leftover_55 : decode cX3_leftover 55 = .ok (.ireturn, 1) := by decide +kernel
theorem dX3_newLead_0 : decode cX3_newLead 0 = .ok (.iconst 0, 1) := by decide +kernel
theorem dX3_newLead_1 : decode cX3_newLead 1 = .ok (.istore_n 3, 1) := by decide +kernel
theorem dX3_newLead_2 : decode cX3_newLead 2 = .ok (.iload_n 3, 1) := by decide +kernel
theorem dX3_newLead_3 : decode cX3_newLead 3 = .ok (.iconst 5, 1) := by decide +kernel
theorem dX3_newLead_4 : decode cX3_newLead 4 = .ok (.if_icmp .ge 21, 3) := by decide +kernel
theorem dX3_newLead_7 : decode cX3_newLead 7 = .ok (.aload_n 0, 1) := by decide +kernel
theorem dX3_newLead_8 : decode cX3_newLead 8 = .ok (.aload_n 1, 1) := by decide +kernel
theorem dX3_newLead_9 : decode cX3_newLead 9 = .ok (.aload_n 2, 1) := by decide +kernel
theorem dX3_newLead_10 : decode cX3_newLead 10 = .ok (.iload_n 3, 1) := by decide +kernel
theorem dX3_newLead_11 : decode cX3_newLead 11 = .ok (.invokevirtual 33, 3) := by decide +kernel
theorem dX3_newLead_14 : decode cX3_newLead 14 = .ok (.ifCond .eq 5, 3) := by decide +kernel
theorem dX3_newLead_17 : decode cX3_newLead 17 = .ok (.iload_n 3, 1) := by decide +kernel
theorem dX3_newLead_18 : decode cX3_newLead 18 = .ok (.ireturn, 1) := by decide +kernel
theorem dX3_newLead_19 : decode cX3_newLead 19 = .ok (.iinc 3 1, 3) := by decide +kernel
theorem dX3_newLead_22 : decode cX3_newLead 22 = .ok (.goto (-20), 3) := by decide +kernel
theorem dX3_newLead_25 : decode cX3_newLead 25 = .ok (.iconst (-1), 1) := by decide +kernel
theorem dX3_newLead_26 : decode cX3_newLead 26 = .ok (.ireturn, 1) := by decide +kernel
theorem dX3_take_0 : decode cX3_take 0 = .ok (.aload_n 0, 1) := by decide +kernel
theorem dX3_take_1 : decode cX3_take 1 = .ok (.aload_n 1, 1) := by decide +kernel
theorem dX3_take_2 : decode cX3_take 2 = .ok (.aload_n 2, 1) := by decide +kernel
theorem dX3_take_3 : decode cX3_take 3 = .ok (.invokevirtual 37, 3) := by decide +kernel
theorem dX3_take_6 : decode cX3_take 6 = .ok (.istore_n 3, 1) := by decide +kernel
theorem dX3_take_7 : decode cX3_take 7 = .ok (.iload_n 3, 1) := by decide +kernel
theorem dX3_take_8 : decode cX3_take 8 = .ok (.ifCond .ge 5, 3) := by decide +kernel
theorem dX3_take_11 : decode cX3_take 11 = .ok (.iconst 0, 1) := by decide +kernel
theorem dX3_take_12 : decode cX3_take 12 = .ok (.ireturn, 1) := by decide +kernel
theorem dX3_take_13 : decode cX3_take 13 = .ok (.aload_n 2, 1) := by decide +kernel
theorem dX3_take_14 : decode cX3_take 14 = .ok (.aload_n 0, 1) := by decide +kernel
theorem dX3_take_15 : decode cX3_take 15 = .ok (.aload_n 1, 1) := by decide +kernel
theorem dX3_take_16 : decode cX3_take 16 = .ok (.aload_n 2, 1) := by decide +kernel
theorem dX3_take_17 : decode cX3_take 17 = .ok (.iload_n 3, 1) := by decide +kernel
theorem dX3_take_18 : decode cX3_take 18 = .ok (.invokevirtual 33, 3) := by decide +kernel
theorem dX3_take_21 : decode cX3_take 21 = .ok (.invokevirtual 41, 3) := by decide +kernel
theorem dX3_take_24 : decode cX3_take 24 = .ok (.istore 4, 2) := by decide +kernel
theorem dX3_take_26 : decode cX3_take 26 = .ok (.iconst 0, 1) := by decide +kernel
theorem dX3_take_27 : decode cX3_take 27 = .ok (.istore 5, 2) := by decide +kernel
theorem dX3_take_29 : decode cX3_take 29 = .ok (.iload 5, 2) := by decide +kernel
theorem dX3_take_31 : decode cX3_take 31 = .ok (.bipush 8, 2) := by decide +kernel
theorem dX3_take_33 : decode cX3_take 33 = .ok (.if_icmp .ge 33, 3) := by decide +kernel
theorem dX3_take_36 : decode cX3_take 36 = .ok (.aload_n 0, 1) := by decide +kernel
theorem dX3_take_37 : decode cX3_take 37 = .ok (.getfield 11, 3) := by decide +kernel
theorem dX3_take_40 : decode cX3_take 40 = .ok (.iload_n 3, 1) := by decide +kernel
theorem dX3_take_41 : decode cX3_take 41 = .ok (.aaload, 1) := by decide +kernel
theorem dX3_take_42 : decode cX3_take 42 = .ok (.iload 5, 2) := by decide +kernel
theorem dX3_take_44 : decode cX3_take 44 = .ok (.aload_n 2, 1) := by decide +kernel
theorem dX3_take_45 : decode cX3_take 45 = .ok (.iload 4, 2) := by decide +kernel
theorem dX3_take_47 : decode cX3_take 47 = .ok (.aload_n 0, 1) := by decide +kernel
theorem dX3_take_48 : decode cX3_take 48 = .ok (.aload_n 1, 1) := by decide +kernel
theorem dX3_take_49 : decode cX3_take 49 = .ok (.aload_n 2, 1) := by decide +kernel
theorem dX3_take_50 : decode cX3_take 50 = .ok (.iload 5, 2) := by decide +kernel
theorem dX3_take_52 : decode cX3_take 52 = .ok (.invokevirtual 33, 3) := by decide +kernel
theorem dX3_take_55 : decode cX3_take 55 = .ok (.imul, 1) := by decide +kernel
theorem dX3_take_56 : decode cX3_take 56 = .ok (.invokevirtual 20, 3) := by decide +kernel
theorem dX3_take_59 : decode cX3_take 59 = .ok (.iastore, 1) := by decide +kernel
theorem dX3_take_60 : decode cX3_take 60 = .ok (.iinc 5 1, 3) := by decide +kernel
theorem dX3_take_63 : decode cX3_take 63 = .ok (.goto (-34), 3) := by decide +kernel
theorem dX3_take_66 : decode cX3_take 66 = .ok (.iconst 0, 1) := by decide +kernel
theorem dX3_take_67 : decode cX3_take 67 = .ok (.istore 5, 2) := by decide +kernel
theorem dX3_take_69 : decode cX3_take 69 = .ok (.iload 5, 2) := by decide +kernel
theorem dX3_take_71 : decode cX3_take 71 = .ok (.iconst 5, 1) := by decide +kernel
theorem dX3_take_72 : decode cX3_take 72 = .ok (.if_icmp .ge 46, 3) := by decide +kernel
theorem dX3_take_75 : decode cX3_take 75 = .ok (.aload_n 0, 1) := by decide +kernel
theorem dX3_take_76 : decode cX3_take 76 = .ok (.getfield 16, 3) := by decide +kernel
theorem dX3_take_79 : decode cX3_take 79 = .ok (.iload 5, 2) := by decide +kernel
theorem dX3_take_81 : decode cX3_take 81 = .ok (.baload, 1) := by decide +kernel
theorem dX3_take_82 : decode cX3_take 82 = .ok (.ifCond .eq 30, 3) := by decide +kernel
theorem dX3_take_85 : decode cX3_take 85 = .ok (.aload_n 0, 1) := by decide +kernel
theorem dX3_take_86 : decode cX3_take 86 = .ok (.getfield 11, 3) := by decide +kernel
theorem dX3_take_89 : decode cX3_take 89 = .ok (.iload 5, 2) := by decide +kernel
theorem dX3_take_91 : decode cX3_take 91 = .ok (.aaload, 1) := by decide +kernel
theorem dX3_take_92 : decode cX3_take 92 = .ok (.aload_n 2, 1) := by decide +kernel
theorem dX3_take_93 : decode cX3_take 93 = .ok (.aload_n 0, 1) := by decide +kernel
theorem dX3_take_94 : decode cX3_take 94 = .ok (.getfield 11, 3) := by decide +kernel
theorem dX3_take_97 : decode cX3_take 97 = .ok (.iload 5, 2) := by decide +kernel
theorem dX3_take_99 : decode cX3_take 99 = .ok (.aaload, 1) := by decide +kernel
theorem dX3_take_100 : decode cX3_take 100 = .ok (.iload_n 3, 1) := by decide +kernel
theorem dX3_take_101 : decode cX3_take 101 = .ok (.iaload, 1) := by decide +kernel
theorem dX3_take_102 : decode cX3_take 102 = .ok (.ineg, 1) := by decide +kernel
theorem dX3_take_103 : decode cX3_take 103 = .ok (.aload_n 0, 1) := by decide +kernel
theorem dX3_take_104 : decode cX3_take 104 = .ok (.getfield 11, 3) := by decide +kernel
theorem dX3_take_107 : decode cX3_take 107 = .ok (.iload_n 3, 1) := by decide +kernel
theorem dX3_take_108 : decode cX3_take 108 = .ok (.aaload, 1) := by decide +kernel
theorem dX3_take_109 : decode cX3_take 109 = .ok (.invokestatic 26, 3) := by decide +kernel
theorem dX3_take_112 : decode cX3_take 112 = .ok (.iinc 5 1, 3) := by decide +kernel
theorem dX3_take_115 : decode cX3_take 115 = .ok (.goto (-46), 3) := by decide +kernel
theorem dX3_take_118 : decode cX3_take 118 = .ok (.aload_n 0, 1) := by decide +kernel
theorem dX3_take_119 : decode cX3_take 119 = .ok (.getfield 16, 3) := by decide +kernel
theorem dX3_take_122 : decode cX3_take 122 = .ok (.iload_n 3, 1) := by decide +kernel
theorem dX3_take_123 : decode cX3_take 123 = .ok (.iconst 1, 1) := by decide +kernel
theorem dX3_take_124 : decode cX3_take 124 = .ok (.bastore, 1) := by decide +kernel
theorem dX3_take_125 : decode cX3_take 125 = .ok (.iconst 1, 1) := by decide +kernel
theorem dX3_take_126 : decode cX3_take 126 = .ok (.ireturn, 1) := by decide +kernel
theorem dX3_addTimes_0 : decode cX3_addTimes 0 = .ok (.iconst 0, 1) := by decide +kernel
theorem dX3_addTimes_1 : decode cX3_addTimes 1 = .ok (.istore 4, 2) := by decide +kernel
