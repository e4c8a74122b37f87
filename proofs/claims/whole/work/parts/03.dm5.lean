theorem dX9_forAll_74 : decode cX9_forAll 74 = .ok (.iload 5, 2) := by decide +kernel
theorem dX9_forAll_76 : decode cX9_forAll 76 = .ok (.aload_n 0, 1) := by decide +kernel
theorem dX9_forAll_77 : decode cX9_forAll 77 = .ok (.iload_n 3, 1) := by decide +kernel
theorem dX9_forAll_78 : decode cX9_forAll 78 = .ok (.iload_n 2, 1) := by decide +kernel
theorem dX9_forAll_79 : decode cX9_forAll 79 = .ok (.invokevirtual 183, 3) := by decide +kernel
theorem dX9_forAll_82 : decode cX9_forAll 82 = .ok (.if_icmp .ge 35, 3) := by decide +kernel
theorem dX9_forAll_85 : decode cX9_forAll 85 = .ok (.iload 4, 2) := by decide +kernel
theorem dX9_forAll_87 : decode cX9_forAll 87 = .ok (.ifCond .eq 30, 3) := by decide +kernel
theorem dX9_forAll_90 : decode cX9_forAll 90 = .ok (.aload_n 0, 1) := by decide +kernel
theorem dX9_forAll_91 : decode cX9_forAll 91 = .ok (.iload_n 3, 1) := by decide +kernel
theorem dX9_forAll_92 : decode cX9_forAll 92 = .ok (.iload_n 2, 1) := by decide +kernel
theorem dX9_forAll_93 : decode cX9_forAll 93 = .ok (.iload 5, 2) := by decide +kernel
theorem dX9_forAll_95 : decode cX9_forAll 95 = .ok (.invokevirtual 175, 3) := by decide +kernel
theorem dX9_forAll_98 : decode cX9_forAll 98 = .ok (.aload_n 0, 1) := by decide +kernel
theorem dX9_forAll_99 : decode cX9_forAll 99 = .ok (.iload_n 3, 1) := by decide +kernel
theorem dX9_forAll_100 : decode cX9_forAll 100 = .ok (.iload 4, 2) := by decide +kernel
theorem dX9_forAll_102 : decode cX9_forAll 102 = .ok (.invokevirtual 189, 3) := by decide +kernel
theorem dX9_forAll_105 : decode cX9_forAll 105 = .ok (.ifCond .eq 6, 3) := by decide +kernel
theorem dX9_forAll_108 : decode cX9_forAll 108 = .ok (.iload 5, 2) := by decide +kernel
theorem dX9_forAll_110 : decode cX9_forAll 110 = .ok (.ireturn, 1) := by decide +kernel
theorem dX9_forAll_111 : decode cX9_forAll 111 = .ok (.iinc 5 1, 3) := by decide +kernel
theorem dX9_forAll_114 : decode cX9_forAll 114 = .ok (.goto (-40), 3) := by decide +kernel
theorem dX9_forAll_117 : decode cX9_forAll 117 = .ok (.bipush (-9), 2) := by decide +kernel
theorem dX9_forAll_119 : decode cX9_forAll 119 = .ok (.ireturn, 1) := by decide +kernel
theorem dX9_isDone_0 : decode cX9_isDone 0 = .ok (.iconst 1, 1) := by decide +kernel
theorem dX9_isDone_1 : decode cX9_isDone 1 = .ok (.istore_n 2, 1) := by decide +kernel
theorem dX9_isDone_2 : decode cX9_isDone 2 = .ok (.iconst 0, 1) := by decide +kernel
theorem dX9_isDone_3 : decode cX9_isDone 3 = .ok (.istore_n 3, 1) := by decide +kernel
theorem dX9_isDone_4 : decode cX9_isDone 4 = .ok (.iload_n 3, 1) := by decide +kernel
theorem dX9_isDone_5 : decode cX9_isDone 5 = .ok (.iconst 4, 1) := by decide +kernel
theorem dX9_isDone_6 : decode cX9_isDone 6 = .ok (.if_icmp .ge 34, 3) := by decide +kernel
theorem dX9_isDone_9 : decode cX9_isDone 9 = .ok (.iload_n 2, 1) := by decide +kernel
theorem dX9_isDone_10 : decode cX9_isDone 10 = .ok (.ifCond .eq 22, 3) := by decide +kernel
theorem dX9_isDone_13 : decode cX9_isDone 13 = .ok (.aload_n 0, 1) := by decide +kernel
theorem dX9_isDone_14 : decode cX9_isDone 14 = .ok (.iload_n 1, 1) := by decide +kernel
theorem dX9_isDone_15 : decode cX9_isDone 15 = .ok (.iload_n 3, 1) := by decide +kernel
theorem dX9_isDone_16 : decode cX9_isDone 16 = .ok (.invokevirtual 156, 3) := by decide +kernel
theorem dX9_isDone_19 : decode cX9_isDone 19 = .ok (.aload_n 0, 1) := by decide +kernel
theorem dX9_isDone_20 : decode cX9_isDone 20 = .ok (.getfield 38, 3) := by decide +kernel
theorem dX9_isDone_23 : decode cX9_isDone 23 = .ok (.iload_n 1, 1) := by decide +kernel
theorem dX9_isDone_24 : decode cX9_isDone 24 = .ok (.iaload, 1) := by decide +kernel
theorem dX9_isDone_25 : decode cX9_isDone 25 = .ok (.if_icmp .ne 7, 3) := by decide +kernel
theorem dX9_isDone_28 : decode cX9_isDone 28 = .ok (.iconst 1, 1) := by decide +kernel
theorem dX9_isDone_29 : decode cX9_isDone 29 = .ok (.goto 4, 3) := by decide +kernel
theorem dX9_isDone_32 : decode cX9_isDone 32 = .ok (.iconst 0, 1) := by decide +kernel
theorem dX9_isDone_33 : decode cX9_isDone 33 = .ok (.istore_n 2, 1) := by decide +kernel
theorem dX9_isDone_34 : decode cX9_isDone 34 = .ok (.iinc 3 1, 3) := by decide +kernel
theorem dX9_isDone_37 : decode cX9_isDone 37 = .ok (.goto (-33), 3) := by decide +kernel
theorem dX9_isDone_40 : decode cX9_isDone 40 = .ok (.iload_n 2, 1) := by decide +kernel
theorem dX9_isDone_41 : decode cX9_isDone 41 = .ok (.ireturn, 1) := by decide +kernel
theorem dX9_moves_0 : decode cX9_moves 0 = .ok (.aload_n 0, 1) := by decide +kernel
theorem dX9_moves_1 : decode cX9_moves 1 = .ok (.getfield 35, 3) := by decide +kernel
theorem dX9_moves_4 : decode cX9_moves 4 = .ok (.iload_n 1, 1) := by decide +kernel
theorem dX9_moves_5 : decode cX9_moves 5 = .ok (.aload_n 0, 1) := by decide +kernel
theorem dX9_moves_6 : decode cX9_moves 6 = .ok (.getfield 35, 3) := by decide +kernel
theorem dX9_moves_9 : decode cX9_moves 9 = .ok (.iload_n 2, 1) := by decide +kernel
theorem dX9_moves_10 : decode cX9_moves 10 = .ok (.iaload, 1) := by decide +kernel
theorem dX9_moves_11 : decode cX9_moves 11 = .ok (.iastore, 1) := by decide +kernel
theorem dX9_moves_12 : decode cX9_moves 12 = .ok (.aload_n 0, 1) := by decide +kernel
theorem dX9_moves_13 : decode cX9_moves 13 = .ok (.getfield 38, 3) := by decide +kernel
theorem dX9_moves_16 : decode cX9_moves 16 = .ok (.iload_n 1, 1) := by decide +kernel
theorem dX9_moves_17 : decode cX9_moves 17 = .ok (.aload_n 0, 1) := by decide +kernel
theorem dX9_moves_18 : decode cX9_moves 18 = .ok (.getfield 38, 3) := by decide +kernel
theorem dX9_moves_21 : decode cX9_moves 21 = .ok (.iload_n 2, 1) := by decide +kernel
theorem dX9_moves_22 : decode cX9_moves 22 = .ok (.iaload, 1) := by decide +kernel
theorem dX9_moves_23 : decode cX9_moves 23 = .ok (.iastore, 1) := by decide +kernel
theorem dX9_moves_24 : decode cX9_moves 24 = .ok (.iconst 0, 1) := by decide +kernel
theorem dX9_moves_25 : decode cX9_moves 25 = .ok (.istore_n 3, 1) := by decide +kernel
theorem dX9_moves_26 : decode cX9_moves 26 = .ok (.iload_n 3, 1) := by decide +kernel
theorem dX9_moves_27 : decode cX9_moves 27 = .ok (.iconst 4, 1) := by decide +kernel
theorem dX9_moves_28 : decode cX9_moves 28 = .ok (.if_icmp .ge 29, 3) := by decide +kernel
theorem dX9_moves_31 : decode cX9_moves 31 = .ok (.aload_n 0, 1) := by decide +kernel
theorem dX9_moves_32 : decode cX9_moves 32 = .ok (.getfield 41, 3) := by decide +kernel
theorem dX9_moves_35 : decode cX9_moves 35 = .ok (.iconst 4, 1) := by decide +kernel
theorem dX9_moves_36 : decode cX9_moves 36 = .ok (.iload_n 1, 1) := by decide +kernel
theorem dX9_moves_37 : decode cX9_moves 37 = .ok (.imul, 1) := by decide +kernel
theorem dX9_moves_38 : decode cX9_moves 38 = .ok (.iload_n 3, 1) := by decide +kernel
theorem dX9_moves_39 : decode cX9_moves 39 = .ok (.iadd, 1) := by decide +kernel
theorem dX9_moves_40 : decode cX9_moves 40 = .ok (.aload_n 0, 1) := by decide +kernel
theorem dX9_moves_41 : decode cX9_moves 41 = .ok (.getfield 41, 3) := by decide +kernel
theorem dX9_moves_44 : decode cX9_moves 44 = .ok (.iconst 4, 1) := by decide +kernel
theorem dX9_moves_45 : decode cX9_moves 45 = .ok (.iload_n 2, 1) := by decide +kernel
theorem dX9_moves_46 : decode cX9_moves 46 = .ok (.imul, 1) := by decide +kernel
theorem dX9_moves_47 : decode cX9_moves 47 = .ok (.iload_n 3, 1) := by decide +kernel
theorem dX9_moves_48 : decode cX9_moves 48 = .ok (.iadd, 1) := by decide +kernel
theorem dX9_moves_49 : decode cX9_moves 49 = .ok (.iaload, 1) := by decide +kernel
theorem dX9_moves_50 : decode cX9_moves 50 = .ok (.iastore, 1) := by decide +kernel
theorem dX9_moves_51 : decode cX9_moves 51 = .ok (.iinc 3 1, 3) := by decide +kernel
theorem dX9_moves_54 : decode cX9_moves 54 = .ok (.goto (-28), 3) := by decide +kernel
theorem dX9_moves_57 : decode cX9_moves 57 = .ok (.iconst 0, 1) := by decide +kernel
theorem dX9_moves_58 : decode cX9_moves 58 = .ok (.istore_n 3, 1) := by decide +kernel
theorem dX9_moves_59 : decode cX9_moves 59 = .ok (.iload_n 3, 1) := by decide +kernel
theorem dX9_moves_60 : decode cX9_moves 60 = .ok (.iconst 1, 1) := by decide +kernel
theorem dX9_moves_61 : decode cX9_moves 61 = .ok (.iconst 0, 1) := by decide +kernel
theorem dX9_moves_62 : decode cX9_moves 62 = .ok (.iconst 0, 1) := by decide +kernel
theorem dX9_moves_63 : decode cX9_moves 63 = .ok (.invokestatic 146, 3) := by decide +kernel
theorem dX9_moves_66 : decode cX9_moves 66 = .ok (.if_icmp .ge 35, 3) := by decide +kernel
theorem dX9_moves_69 : decode cX9_moves 69 = .ok (.aload_n 0, 1) := by decide +kernel
theorem dX9_moves_70 : decode cX9_moves 70 = .ok (.getfield 44, 3) := by decide +kernel
theorem dX9_moves_73 : decode cX9_moves 73 = .ok (.iload_n 1, 1) := by decide +kernel
theorem dX9_moves_74 : decode cX9_moves 74 = .ok (.iconst 0, 1) := by decide +kernel
theorem dX9_moves_75 : decode cX9_moves 75 = .ok (.iconst 0, 1) := by decide +kernel
theorem dX9_moves_76 : decode cX9_moves 76 = .ok (.invokestatic 146, 3) := by decide +kernel
theorem dX9_moves_79 : decode cX9_moves 79 = .ok (.iload_n 3, 1) := by decide +kernel
theorem dX9_moves_80 : decode cX9_moves 80 = .ok (.iadd, 1) := by decide +kernel
theorem dX9_moves_81 : decode cX9_moves 81 = .ok (.aload_n 0, 1) := by decide +kernel
theorem dX9_moves_82 : decode cX9_moves 82 = .ok (.getfield 44, 3) := by decide +kernel
theorem dX9_moves_85 : decode cX9_moves 85 = .ok (.iload_n 2, 1) := by decide +kernel
theorem dX9_moves_86 : decode cX9_moves 86 = .ok (.iconst 0, 1) := by decide +kernel
theorem dX9_moves_87 : decode cX9_moves 87 = .ok (.iconst 0, 1) := by decide +kernel
theorem dX9_moves_88 : decode cX9_moves 88 = .ok (.invokestatic 146, 3) := by decide +kernel
theorem dX9_moves_91 : decode cX9_moves 91 = .ok (.iload_n 3, 1) := by decide +kernel
theorem dX9_moves_92 : decode cX9_moves 92 = .ok (.iadd, 1) := by decide +kernel
theorem dX9_moves_93 : decode cX9_moves 93 = .ok (.iaload, 1) := by decide +kernel
theorem dX9_moves_94 : decode cX9_moves 94 = .ok (.iastore, 1) := by decide +kernel
theorem dX9_moves_95 : decode cX9_moves 95 = .ok (.iinc 3 1, 3) := by decide +kernel
theorem dX9_moves_98 : decode cX9_moves 98 = .ok (.goto (-39), 3) := by decide +kernel
theorem dX9_moves_101 : decode cX9_moves 101 = .ok (.return_, 1) := by decide +kernel
theorem dX9_sweep_0 : decode cX9_sweep 0 = .ok (.iconst 0, 1) := by decide +kernel
theorem dX9_sweep_1 : decode cX9_sweep 1 = .ok (.istore_n 1, 1) := by decide +kernel
theorem dX9_sweep_2 : decode cX9_sweep 2 = .ok (.iconst 0, 1) := by decide +kernel
theorem dX9_sweep_3 : decode cX9_sweep 3 = .ok (.istore_n 2, 1) := by decide +kernel
theorem dX9_sweep_4 : decode cX9_sweep 4 = .ok (.iload_n 2, 1) := by decide +kernel
theorem dX9_sweep_5 : decode cX9_sweep 5 = .ok (.aload_n 0, 1) := by decide +kernel
theorem dX9_sweep_6 : decode cX9_sweep 6 = .ok (.getfield 140, 3) := by decide +kernel
theorem dX9_sweep_9 : decode cX9_sweep 9 = .ok (.if_icmp .ge 26, 3) := by decide +kernel
theorem dX9_sweep_12 : decode cX9_sweep 12 = .ok (.aload_n 0, 1) := by decide +kernel
theorem dX9_sweep_13 : decode cX9_sweep 13 = .ok (.iload_n 2, 1) := by decide +kernel
theorem dX9_sweep_14 : decode cX9_sweep 14 = .ok (.invokevirtual 192, 3) := by decide +kernel
theorem dX9_sweep_17 : decode cX9_sweep 17 = .ok (.ifCond .ne 12, 3) := by decide +kernel
theorem dX9_sweep_20 : decode cX9_sweep 20 = .ok (.aload_n 0, 1) := by decide +kernel
theorem dX9_sweep_21 : decode cX9_sweep 21 = .ok (.iload_n 1, 1) := by decide +kernel
theorem dX9_sweep_22 : decode cX9_sweep 22 = .ok (.iload_n 2, 1) := by decide +kernel
theorem dX9_sweep_23 : decode cX9_sweep 23 = .ok (.invokevirtual 195, 3) := by decide +kernel
theorem dX9_sweep_26 : decode cX9_sweep 26 = .ok (.iinc 1 1, 3) := by decide +kernel
theorem dX9_sweep_29 : decode cX9_sweep 29 = .ok (.iinc 2 1, 3) := by decide +kernel
theorem dX9_sweep_32 : decode cX9_sweep 32 = .ok (.goto (-28), 3) := by decide +kernel
theorem dX9_sweep_35 : decode cX9_sweep 35 = .ok (.aload_n 0, 1) := by decide +kernel
theorem dX9_sweep_36 : decode cX9_sweep 36 = .ok (.getfield 140, 3) := by decide +kernel
theorem dX9_sweep_39 : decode cX9_sweep 39 = .ok (.iload_n 1, 1) := by decide +kernel
theorem dX9_sweep_40 : decode cX9_sweep 40 = .ok (.isub, 1) := by decide +kernel
theorem dX9_sweep_41 : decode cX9_sweep 41 = .ok (.istore_n 2, 1) := by decide +kernel
theorem dX9_sweep_42 : decode cX9_sweep 42 = .ok (.aload_n 0, 1) := by decide +kernel
theorem dX9_sweep_43 : decode cX9_sweep 43 = .ok (.iload_n 1, 1) := by decide +kernel
theorem dX9_sweep_44 : decode cX9_sweep 44 = .ok (.putfield 140, 3) := by decide +kernel
theorem dX9_sweep_47 : decode cX9_sweep 47 = .ok (.iload_n 2, 1) := by decide +kernel
theorem dX9_sweep_48 : decode cX9_sweep 48 = .ok (.ireturn, 1) := by decide +kernel
theorem dX9_opened_0 : decode cX9_opened 0 = .ok (.iload_n 1, 1) := by decide +kernel
theorem dX9_opened_1 : decode cX9_opened 1 = .ok (.iconst 0, 1) := by decide +kernel
theorem dX9_opened_2 : decode cX9_opened 2 = .ok (.aload_n 0, 1) := by decide +kernel
theorem dX9_opened_3 : decode cX9_opened 3 = .ok (.getfield 140, 3) := by decide +kernel
theorem dX9_opened_6 : decode cX9_opened 6 = .ok (.iconst 1, 1) := by decide +kernel
theorem dX9_opened_7 : decode cX9_opened 7 = .ok (.isub, 1) := by decide +kernel
theorem dX9_opened_8 : decode cX9_opened 8 = .ok (.invokestatic 68, 3) := by decide +kernel
theorem dX9_opened_11 : decode cX9_opened 11 = .ok (.ifCond .eq 12, 3) := by decide +kernel
theorem dX9_opened_14 : decode cX9_opened 14 = .ok (.aload_n 0, 1) := by decide +kernel
theorem dX9_opened_15 : decode cX9_opened 15 = .ok (.getfield 35, 3) := by decide +kernel
theorem dX9_opened_18 : decode cX9_opened 18 = .ok (.iload_n 1, 1) := by decide +kernel
theorem dX9_opened_19 : decode cX9_opened 19 = .ok (.iaload, 1) := by decide +kernel
theorem dX9_opened_20 : decode cX9_opened 20 = .ok (.goto 4, 3) := by decide +kernel
theorem dX9_opened_23 : decode cX9_opened 23 = .ok (.iconst (-1), 1) := by decide +kernel
theorem dX9_opened_24 : decode cX9_opened 24 = .ok (.ireturn, 1) := by decide +kernel
theorem dX9_writes_0 : decode cX9_writes 0 = .ok (.aload_n 0, 1) := by decide +kernel
theorem dX9_writes_1 : decode cX9_writes 1 = .ok (.getfield 65, 3) := by decide +kernel
theorem dX9_writes_4 : decode cX9_writes 4 = .ok (.aload_n 0, 1) := by decide +kernel
theorem dX9_writes_5 : decode cX9_writes 5 = .ok (.getfield 199, 3) := by decide +kernel
theorem dX9_writes_8 : decode cX9_writes 8 = .ok (.iload_n 1, 1) := by decide +kernel
theorem dX9_writes_9 : decode cX9_writes 9 = .ok (.iastore, 1) := by decide +kernel
theorem dX9_writes_10 : decode cX9_writes 10 = .ok (.aload_n 0, 1) := by decide +kernel
theorem dX9_writes_11 : decode cX9_writes 11 = .ok (.dup, 1) := by decide +kernel
theorem dX9_writes_12 : decode cX9_writes 12 = .ok (.getfield 199, 3) := by decide +kernel
theorem dX9_writes_15 : decode cX9_writes 15 = .ok (.iconst 1, 1) := by decide +kernel
theorem dX9_writes_16 : decode cX9_writes 16 = .ok (.iadd, 1) := by decide +kernel
theorem dX9_writes_17 : decode cX9_writes 17 = .ok (.putfield 199, 3) := by decide +kernel
theorem dX9_writes_20 : decode cX9_writes 20 = .ok (.return_, 1) := by decide +kernel
theorem dX9_signAt_0 : decode cX9_signAt 0 = .ok (.iload_n 1, 1) := by decide +kernel
theorem dX9_signAt_1 : decode cX9_signAt 1 = .ok (.ifCond .ge 10, 3) := by decide +kernel
theorem dX9_signAt_4 : decode cX9_signAt 4 = .ok (.aload_n 0, 1) := by decide +kernel
theorem dX9_signAt_5 : decode cX9_signAt 5 = .ok (.getfield 199, 3) := by decide +kernel
theorem dX9_signAt_8 : decode cX9_signAt 8 = .ok (.goto 22, 3) := by decide +kernel
theorem dX9_signAt_11 : decode cX9_signAt 11 = .ok (.iload_n 1, 1) := by decide +kernel
theorem dX9_signAt_12 : decode cX9_signAt 12 = .ok (.aload_n 0, 1) := by decide +kernel
theorem dX9_signAt_13 : decode cX9_signAt 13 = .ok (.getfield 199, 3) := by decide +kernel
theorem dX9_signAt_16 : decode cX9_signAt 16 = .ok (.if_icmp .ge 12, 3) := by decide +kernel
theorem dX9_signAt_19 : decode cX9_signAt 19 = .ok (.aload_n 0, 1) := by decide +kernel
theorem dX9_signAt_20 : decode cX9_signAt 20 = .ok (.getfield 65, 3) := by decide +kernel
theorem dX9_signAt_23 : decode cX9_signAt 23 = .ok (.iload_n 1, 1) := by decide +kernel
theorem dX9_signAt_24 : decode cX9_signAt 24 = .ok (.iaload, 1) := by decide +kernel
theorem dX9_signAt_25 : decode cX9_signAt 25 = .ok (.goto 5, 3) := by decide +kernel
theorem dX9_signAt_28 : decode cX9_signAt 28 = .ok (.bipush (-9), 2) := by decide +kernel
theorem dX9_signAt_30 : decode cX9_signAt 30 = .ok (.ireturn, 1) := by decide +kernel
theorem dX9_writesNumber_0 : decode cX9_writesNumber 0 = .ok (.iload_n 1, 1) := by decide +kernel
theorem dX9_writesNumber_1 : decode cX9_writesNumber 1 = .ok (.bipush 99, 2) := by decide +kernel
theorem dX9_writesNumber_3 : decode cX9_writesNumber 3 = .ok (.if_icmp .le 8, 3) := by decide +kernel
theorem dX9_writesNumber_6 : decode cX9_writesNumber 6 = .ok (.bipush 100, 2) := by decide +kernel
theorem dX9_writesNumber_8 : decode cX9_writesNumber 8 = .ok (.goto 15, 3) := by decide +kernel
theorem dX9_writesNumber_11 : decode cX9_writesNumber 11 = .ok (.iload_n 1, 1) := by decide +kernel
theorem dX9_writesNumber_12 : decode cX9_writesNumber 12 = .ok (.bipush 9, 2) := by decide +kernel
theorem dX9_writesNumber_14 : decode cX9_writesNumber 14 = .ok (.if_icmp .le 8, 3) := by decide +kernel
theorem dX9_writesNumber_17 : decode cX9_writesNumber 17 = .ok (.bipush 10, 2) := by decide +kernel
theorem dX9_writesNumber_19 : decode cX9_writesNumber 19 = .ok (.goto 4, 3) := by decide +kernel
theorem dX9_writesNumber_22 : decode cX9_writesNumber 22 = .ok (.iconst 1, 1) := by decide +kernel
theorem dX9_writesNumber_23 : decode cX9_writesNumber 23 = .ok (.istore_n 2, 1) := by decide +kernel
theorem dX9_writesNumber_24 : decode cX9_writesNumber 24 = .ok (.iload_n 2, 1) := by decide +kernel
theorem dX9_writesNumber_25 : decode cX9_writesNumber 25 = .ok (.ifCond .le 24, 3) := by decide +kernel
theorem dX9_writesNumber_28 : decode cX9_writesNumber 28 = .ok (.aload_n 0, 1) := by decide +kernel
theorem dX9_writesNumber_29 : decode cX9_writesNumber 29 = .ok (.bipush 48, 2) := by decide +kernel
theorem dX9_writesNumber_31 : decode cX9_writesNumber 31 = .ok (.iload_n 1, 1) := by decide +kernel
theorem dX9_writesNumber_32 : decode cX9_writesNumber 32 = .ok (.iload_n 2, 1) := by decide +kernel
theorem dX9_writesNumber_33 : decode cX9_writesNumber 33 = .ok (.idiv, 1) := by decide +kernel
theorem dX9_writesNumber_34 : decode cX9_writesNumber 34 = .ok (.bipush 10, 2) := by decide +kernel
theorem dX9_writesNumber_36 : decode cX9_writesNumber 36 = .ok (.irem, 1) := by decide +kernel
theorem dX9_writesNumber_37 : decode cX9_writesNumber 37 = .ok (.iadd, 1) := by decide +kernel
theorem dX9_writesNumber_38 : decode cX9_writesNumber 38 = .ok (.invokevirtual 202, 3) := by decide +kernel
theorem dX9_writesNumber_41 : decode cX9_writesNumber 41 = .ok (.iload_n 2, 1) := by decide +kernel
theorem dX9_writesNumber_42 : decode cX9_writesNumber 42 = .ok (.bipush 10, 2) := by decide +kernel
theorem dX9_writesNumber_44 : decode cX9_writesNumber 44 = .ok (.idiv, 1) := by decide +kernel
theorem dX9_writesNumber_45 : decode cX9_writesNumber 45 = .ok (.istore_n 2, 1) := by decide +kernel
theorem dX9_writesNumber_46 : decode cX9_writesNumber 46 = .ok (.goto (-22), 3) := by decide +kernel
theorem dX9_writesNumber_49 : decode cX9_writesNumber 49 = .ok (.return_, 1) := by decide +kernel
theorem dX9_text_0 : decode cX9_text 0 = .ok (.aload_n 0, 1) := by decide +kernel
theorem dX9_text_1 : decode cX9_text 1 = .ok (.iload_n 1, 1) := by decide +kernel
theorem dX9_text_2 : decode cX9_text 2 = .ok (.invokevirtual 106, 3) := by decide +kernel
theorem dX9_text_5 : decode cX9_text 5 = .ok (.ifCond .eq 13, 3) := by decide +kernel
theorem dX9_text_8 : decode cX9_text 8 = .ok (.iload_n 2, 1) := by decide +kernel
theorem dX9_text_9 : decode cX9_text 9 = .ok (.iconst (-1), 1) := by decide +kernel
theorem dX9_text_10 : decode cX9_text 10 = .ok (.bipush 39, 2) := by decide +kernel
theorem dX9_text_12 : decode cX9_text 12 = .ok (.invokestatic 68, 3) := by decide +kernel
theorem dX9_text_15 : decode cX9_text 15 = .ok (.ifCond .ne 6, 3) := by decide +kernel
theorem dX9_text_18 : decode cX9_text 18 = .ok (.bipush (-2), 2) := by decide +kernel
theorem dX9_text_20 : decode cX9_text 20 = .ok (.ireturn, 1) := by decide +kernel
theorem dX9_text_21 : decode cX9_text 21 = .ok (.aload_n 0, 1) := by decide +kernel
theorem dX9_text_22 : decode cX9_text 22 = .ok (.iconst 0, 1) := by decide +kernel
theorem dX9_text_23 : decode cX9_text 23 = .ok (.putfield 199, 3) := by decide +kernel
theorem dX9_text_26 : decode cX9_text 26 = .ok (.iconst 0, 1) := by decide +kernel
theorem dX9_text_27 : decode cX9_text 27 = .ok (.istore_n 3, 1) := by decide +kernel
theorem dX9_text_28 : decode cX9_text 28 = .ok (.iload_n 3, 1) := by decide +kernel
theorem dX9_text_29 : decode cX9_text 29 = .ok (.bipush 10, 2) := by decide +kernel
theorem dX9_text_31 : decode cX9_text 31 = .ok (.if_icmp .ge 38, 3) := by decide +kernel
theorem dX9_text_34 : decode cX9_text 34 = .ok (.iload_n 1, 1) := by decide +kernel
theorem dX9_text_35 : decode cX9_text 35 = .ok (.iload_n 3, 1) := by decide +kernel
theorem dX9_text_36 : decode cX9_text 36 = .ok (.invokestatic 75, 3) := by decide +kernel
theorem dX9_text_39 : decode cX9_text 39 = .ok (.ifCond .eq 24, 3) := by decide +kernel
theorem dX9_text_42 : decode cX9_text 42 = .ok (.aload_n 0, 1) := by decide +kernel
theorem dX9_text_43 : decode cX9_text 43 = .ok (.getfield 199, 3) := by decide +kernel
theorem dX9_text_46 : decode cX9_text 46 = .ok (.ifCond .le 9, 3) := by decide +kernel
theorem dX9_text_49 : decode cX9_text 49 = .ok (.aload_n 0, 1) := by decide +kernel
theorem dX9_text_50 : decode cX9_text 50 = .ok (.bipush 43, 2) := by decide +kernel
theorem dX9_text_52 : decode cX9_text 52 = .ok (.invokevirtual 202, 3) := by decide +kernel
theorem dX9_text_55 : decode cX9_text 55 = .ok (.aload_n 0, 1) := by decide +kernel
theorem dX9_text_56 : decode cX9_text 56 = .ok (.bipush 48, 2) := by decide +kernel
theorem dX9_text_58 : decode cX9_text 58 = .ok (.iload_n 3, 1) := by decide +kernel
theorem dX9_text_59 : decode cX9_text 59 = .ok (.iadd, 1) := by decide +kernel
theorem dX9_text_60 : decode cX9_text 60 = .ok (.invokevirtual 202, 3) := by decide +kernel
theorem dX9_text_63 : decode cX9_text 63 = .ok (.iinc 3 1, 3) := by decide +kernel
theorem dX9_text_66 : decode cX9_text 66 = .ok (.goto (-38), 3) := by decide +kernel
theorem dX9_text_69 : decode cX9_text 69 = .ok (.aload_n 0, 1) := by decide +kernel
theorem dX9_text_70 : decode cX9_text 70 = .ok (.bipush 32, 2) := by decide +kernel
theorem dX9_text_72 : decode cX9_text 72 = .ok (.invokevirtual 202, 3) := by decide +kernel
theorem dX9_text_75 : decode cX9_text 75 = .ok (.aload_n 0, 1) := by decide +kernel
theorem dX9_text_76 : decode cX9_text 76 = .ok (.aload_n 0, 1) := by decide +kernel
theorem dX9_text_77 : decode cX9_text 77 = .ok (.iload_n 1, 1) := by decide +kernel
theorem dX9_text_78 : decode cX9_text 78 = .ok (.invokevirtual 115, 3) := by decide +kernel
theorem dX9_text_81 : decode cX9_text 81 = .ok (.invokevirtual 206, 3) := by decide +kernel
theorem dX9_text_84 : decode cX9_text 84 = .ok (.aload_n 0, 1) := by decide +kernel
theorem dX9_text_85 : decode cX9_text 85 = .ok (.iload_n 2, 1) := by decide +kernel
theorem dX9_text_86 : decode cX9_text 86 = .ok (.invokevirtual 209, 3) := by decide +kernel
theorem dX9_text_89 : decode cX9_text 89 = .ok (.ireturn, 1) := by decide +kernel
theorem dX9_rows_0 : decode cX9_rows 0 = .ok (.aload_n 0, 1) := by decide +kernel
theorem dX9_rows_1 : decode cX9_rows 1 = .ok (.iload_n 1, 1) := by decide +kernel
theorem dX9_rows_2 : decode cX9_rows 2 = .ok (.invokevirtual 150, 3) := by decide +kernel
theorem dX9_rows_5 : decode cX9_rows 5 = .ok (.istore 4, 2) := by decide +kernel
theorem dX9_rows_7 : decode cX9_rows 7 = .ok (.iload 4, 2) := by decide +kernel
theorem dX9_rows_9 : decode cX9_rows 9 = .ok (.bipush (-9), 2) := by decide +kernel
theorem dX9_rows_11 : decode cX9_rows 11 = .ok (.if_icmp .eq 10, 3) := by decide +kernel
theorem dX9_rows_14 : decode cX9_rows 14 = .ok (.iload_n 2, 1) := by decide +kernel
theorem dX9_rows_15 : decode cX9_rows 15 = .ok (.invokestatic 153, 3) := by decide +kernel
theorem dX9_rows_18 : decode cX9_rows 18 = .ok (.ifCond .ne 5, 3) := by decide +kernel
theorem dX9_rows_21 : decode cX9_rows 21 = .ok (.iconst (-1), 1) := by decide +kernel
theorem dX9_rows_22 : decode cX9_rows 22 = .ok (.ireturn, 1) := by decide +kernel
theorem dX9_rows_23 : decode cX9_rows 23 = .ok (.iload_n 3, 1) := by decide +kernel
theorem dX9_rows_24 : decode cX9_rows 24 = .ok (.iconst (-1), 1) := by decide +kernel
theorem dX9_rows_25 : decode cX9_rows 25 = .ok (.bipush 59, 2) := by decide +kernel
theorem dX9_rows_27 : decode cX9_rows 27 = .ok (.invokestatic 68, 3) := by decide +kernel
theorem dX9_rows_30 : decode cX9_rows 30 = .ok (.ifCond .ne 6, 3) := by decide +kernel
theorem dX9_rows_33 : decode cX9_rows 33 = .ok (.bipush (-2), 2) := by decide +kernel
theorem dX9_rows_35 : decode cX9_rows 35 = .ok (.ireturn, 1) := by decide +kernel
theorem dX9_rows_36 : decode cX9_rows 36 = .ok (.aload_n 0, 1) := by decide +kernel
theorem dX9_rows_37 : decode cX9_rows 37 = .ok (.iconst 0, 1) := by decide +kernel
theorem dX9_rows_38 : decode cX9_rows 38 = .ok (.putfield 199, 3) := by decide +kernel
theorem dX9_rows_41 : decode cX9_rows 41 = .ok (.iconst 0, 1) := by decide +kernel
theorem dX9_rows_42 : decode cX9_rows 42 = .ok (.istore 5, 2) := by decide +kernel
theorem dX9_rows_44 : decode cX9_rows 44 = .ok (.iload 5, 2) := by decide +kernel
theorem dX9_rows_46 : decode cX9_rows 46 = .ok (.aload_n 0, 1) := by decide +kernel
theorem dX9_rows_47 : decode cX9_rows 47 = .ok (.iload 4, 2) := by decide +kernel
theorem dX9_rows_49 : decode cX9_rows 49 = .ok (.iload_n 2, 1) := by decide +kernel
theorem dX9_rows_50 : decode cX9_rows 50 = .ok (.invokevirtual 156, 3) := by decide +kernel
theorem dX9_rows_53 : decode cX9_rows 53 = .ok (.if_icmp .ge 84, 3) := by decide +kernel
theorem dX9_rows_56 : decode cX9_rows 56 = .ok (.iload 5, 2) := by decide +kernel
theorem dX9_rows_58 : decode cX9_rows 58 = .ok (.ifCond .le 9, 3) := by decide +kernel
theorem dX9_rows_61 : decode cX9_rows 61 = .ok (.aload_n 0, 1) := by decide +kernel
theorem dX9_rows_62 : decode cX9_rows 62 = .ok (.bipush 32, 2) := by decide +kernel
theorem dX9_rows_64 : decode cX9_rows 64 = .ok (.invokevirtual 202, 3) := by decide +kernel
theorem dX9_rows_67 : decode cX9_rows 67 = .ok (.iconst 0, 1) := by decide +kernel
theorem dX9_rows_68 : decode cX9_rows 68 = .ok (.istore 6, 2) := by decide +kernel
theorem dX9_rows_70 : decode cX9_rows 70 = .ok (.iload 6, 2) := by decide +kernel
theorem dX9_rows_72 : decode cX9_rows 72 = .ok (.aload_n 0, 1) := by decide +kernel
theorem dX9_rows_73 : decode cX9_rows 73 = .ok (.getfield 38, 3) := by decide +kernel
theorem dX9_rows_76 : decode cX9_rows 76 = .ok (.iload 4, 2) := by decide +kernel
theorem dX9_rows_78 : decode cX9_rows 78 = .ok (.iaload, 1) := by decide +kernel
theorem dX9_rows_79 : decode cX9_rows 79 = .ok (.iconst 3, 1) := by decide +kernel
theorem dX9_rows_80 : decode cX9_rows 80 = .ok (.iadd, 1) := by decide +kernel
theorem dX9_rows_81 : decode cX9_rows 81 = .ok (.if_icmp .ge 50, 3) := by decide +kernel
theorem dX9_rows_84 : decode cX9_rows 84 = .ok (.iload 6, 2) := by decide +kernel
theorem dX9_rows_86 : decode cX9_rows 86 = .ok (.aload_n 0, 1) := by decide +kernel
theorem dX9_rows_87 : decode cX9_rows 87 = .ok (.getfield 38, 3) := by decide +kernel
theorem dX9_rows_90 : decode cX9_rows 90 = .ok (.iload 4, 2) := by decide +kernel
theorem dX9_rows_92 : decode cX9_rows 92 = .ok (.iaload, 1) := by decide +kernel
theorem dX9_rows_93 : decode cX9_rows 93 = .ok (.if_icmp .ne 9, 3) := by decide +kernel
theorem dX9_rows_96 : decode cX9_rows 96 = .ok (.aload_n 0, 1) := by decide +kernel
theorem dX9_rows_97 : decode cX9_rows 97 = .ok (.bipush 58, 2) := by decide +kernel
theorem dX9_rows_99 : decode cX9_rows 99 = .ok (.invokevirtual 202, 3) := by decide +kernel
theorem dX9_rows_102 : decode cX9_rows 102 = .ok (.aload_n 0, 1) := by decide +kernel
theorem dX9_rows_103 : decode cX9_rows 103 = .ok (.bipush 48, 2) := by decide +kernel
theorem dX9_rows_105 : decode cX9_rows 105 = .ok (.aload_n 0, 1) := by decide +kernel
theorem dX9_rows_106 : decode cX9_rows 106 = .ok (.getfield 44, 3) := by decide +kernel
theorem dX9_rows_109 : decode cX9_rows 109 = .ok (.iload 4, 2) := by decide +kernel
theorem dX9_rows_111 : decode cX9_rows 111 = .ok (.iload_n 2, 1) := by decide +kernel
theorem dX9_rows_112 : decode cX9_rows 112 = .ok (.iload 5, 2) := by decide +kernel
theorem dX9_rows_114 : decode cX9_rows 114 = .ok (.invokestatic 146, 3) := by decide +kernel
theorem dX9_rows_117 : decode cX9_rows 117 = .ok (.iload 6, 2) := by decide +kernel
theorem dX9_rows_119 : decode cX9_rows 119 = .ok (.iadd, 1) := by decide +kernel
theorem dX9_rows_120 : decode cX9_rows 120 = .ok (.iaload, 1) := by decide +kernel
theorem dX9_rows_121 : decode cX9_rows 121 = .ok (.iadd, 1) := by decide +kernel
theorem dX9_rows_122 : decode cX9_rows 122 = .ok (.invokevirtual 202, 3) := by decide +kernel
theorem dX9_rows_125 : decode cX9_rows 125 = .ok (.iinc 6 1, 3) := by decide +kernel
theorem dX9_rows_128 : decode cX9_rows 128 = .ok (.goto (-58), 3) := by decide +kernel
theorem dX9_rows_131 : decode cX9_rows 131 = .ok (.iinc 5 1, 3) := by decide +kernel
theorem dX9_rows_134 : decode cX9_rows 134 = .ok (.goto (-90), 3) := by decide +kernel
theorem dX9_rows_137 : decode cX9_rows 137 = .ok (.aload_n 0, 1) := by decide +kernel
theorem dX9_rows_138 : decode cX9_rows 138 = .ok (.iload_n 3, 1) := by decide +kernel
theorem dX9_rows_139 : decode cX9_rows 139 = .ok (.invokevirtual 209, 3) := by decide +kernel
theorem dX9_rows_142 : decode cX9_rows 142 = .ok (.ireturn, 1) := by decide +kernel
theorem dX9_many_0 : decode cX9_many 0 = .ok (.iload_n 1, 1) := by decide +kernel
theorem dX9_many_1 : decode cX9_many 1 = .ok (.tableswitch 102 0 8 #[51, 59, 64, 69, 74, 79, 84, 89, 94], 51) := by decide +kernel
theorem dX9_many_52 : decode cX9_many 52 = .ok (.aload_n 0, 1) := by decide +kernel
theorem dX9_many_53 : decode cX9_many 53 = .ok (.getfield 72, 3) := by decide +kernel
theorem dX9_many_56 : decode cX9_many 56 = .ok (.invokestatic 102, 3) := by decide +kernel
theorem dX9_many_59 : decode cX9_many 59 = .ok (.ireturn, 1) := by decide +kernel
theorem dX9_many_60 : decode cX9_many 60 = .ok (.aload_n 0, 1) := by decide +kernel
theorem dX9_many_61 : decode cX9_many 61 = .ok (.getfield 79, 3) := by decide +kernel
theorem dX9_many_64 : decode cX9_many 64 = .ok (.ireturn, 1) := by decide +kernel
theorem dX9_many_65 : decode cX9_many 65 = .ok (.aload_n 0, 1) := by decide +kernel
theorem dX9_many_66 : decode cX9_many 66 = .ok (.getfield 96, 3) := by decide +kernel
theorem dX9_many_69 : decode cX9_many 69 = .ok (.ireturn, 1) := by decide +kernel
theorem dX9_many_70 : decode cX9_many 70 = .ok (.aload_n 0, 1) := by decide +kernel
theorem dX9_many_71 : decode cX9_many 71 = .ok (.getfield 99, 3) := by decide +kernel
theorem dX9_many_74 : decode cX9_many 74 = .ok (.ireturn, 1) := by decide +kernel
theorem dX9_many_75 : decode cX9_many 75 = .ok (.aload_n 0, 1) := by decide +kernel
theorem dX9_many_76 : decode cX9_many 76 = .ok (.getfield 32, 3) := by decide +kernel
theorem dX9_many_79 : decode cX9_many 79 = .ok (.ireturn, 1) := by decide +kernel
theorem dX9_many_80 : decode cX9_many 80 = .ok (.aload_n 0, 1) := by decide +kernel
theorem dX9_many_81 : decode cX9_many 81 = .ok (.getfield 143, 3) := by decide +kernel
theorem dX9_many_84 : decode cX9_many 84 = .ok (.ireturn, 1) := by decide +kernel
theorem dX9_many_85 : decode cX9_many 85 = .ok (.aload_n 0, 1) := by decide +kernel
theorem dX9_many_86 : decode cX9_many 86 = .ok (.getfield 140, 3) := by decide +kernel
theorem dX9_many_89 : decode cX9_many 89 = .ok (.ireturn, 1) := by decide +kernel
theorem dX9_many_90 : decode cX9_many 90 = .ok (.aload_n 0, 1) := by decide +kernel
theorem dX9_many_91 : decode cX9_many 91 = .ok (.getfield 134, 3) := by decide +kernel
theorem dX9_many_94 : decode cX9_many 94 = .ok (.ireturn, 1) := by decide +kernel
theorem dX9_many_95 : decode cX9_many 95 = .ok (.aload_n 0, 1) := by decide +kernel
theorem dX9_many_96 : decode cX9_many 96 = .ok (.getfield 47, 3) := by decide +kernel
theorem dX9_many_99 : decode cX9_many 99 = .ok (.ldc 212, 2) := by decide +kernel
theorem dX9_many_101 : decode cX9_many 101 = .ok (.iand, 1) := by decide +kernel
theorem dX9_many_102 : decode cX9_many 102 = .ok (.ireturn, 1) := by decide +kernel
theorem dX9_many_103 : decode cX9_many 103 = .ok (.bipush (-2), 2) := by decide +kernel
theorem dX9_many_105 : decode cX9_many 105 = .ok (.ireturn, 1) := by decide +kernel
