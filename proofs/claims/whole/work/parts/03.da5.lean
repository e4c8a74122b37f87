theorem dX8_word_26 : decode cX8_word 26 = .ok (.iload_n 1, 1) := by decide +kernel
theorem dX8_word_27 : decode cX8_word 27 = .ok (.putfield 135, 3) := by decide +kernel
theorem dX8_word_30 : decode cX8_word 30 = .ok (.aload_n 0, 1) := by decide +kernel
theorem dX8_word_31 : decode cX8_word 31 = .ok (.getfield 35, 3) := by decide +kernel
theorem dX8_word_34 : decode cX8_word 34 = .ok (.invokevirtual 138, 3) := by decide +kernel
theorem dX8_word_37 : decode cX8_word 37 = .ok (.iload_n 1, 1) := by decide +kernel
theorem dX8_word_38 : decode cX8_word 38 = .ok (.ireturn, 1) := by decide +kernel
theorem dX8_open_0 : decode cX8_open 0 = .ok (.iload_n 1, 1) := by decide +kernel
theorem dX8_open_1 : decode cX8_open 1 = .ok (.iconst 1, 1) := by decide +kernel
theorem dX8_open_2 : decode cX8_open 2 = .ok (.if_icmp .lt 8, 3) := by decide +kernel
theorem dX8_open_5 : decode cX8_open 5 = .ok (.iload_n 1, 1) := by decide +kernel
theorem dX8_open_6 : decode cX8_open 6 = .ok (.iconst 5, 1) := by decide +kernel
theorem dX8_open_7 : decode cX8_open 7 = .ok (.if_icmp .le 6, 3) := by decide +kernel
theorem dX8_open_10 : decode cX8_open 10 = .ok (.bipush (-2), 2) := by decide +kernel
theorem dX8_open_12 : decode cX8_open 12 = .ok (.ireturn, 1) := by decide +kernel
theorem dX8_open_13 : decode cX8_open 13 = .ok (.aload_n 0, 1) := by decide +kernel
theorem dX8_open_14 : decode cX8_open 14 = .ok (.getfield 35, 3) := by decide +kernel
theorem dX8_open_17 : decode cX8_open 17 = .ok (.iload_n 1, 1) := by decide +kernel
theorem dX8_open_18 : decode cX8_open 18 = .ok (.iload_n 2, 1) := by decide +kernel
theorem dX8_open_19 : decode cX8_open 19 = .ok (.invokevirtual 141, 3) := by decide +kernel
theorem dX8_open_22 : decode cX8_open 22 = .ok (.ireturn, 1) := by decide +kernel
theorem dX8_rank_0 : decode cX8_rank 0 = .ok (.aload_n 0, 1) := by decide +kernel
theorem dX8_rank_1 : decode cX8_rank 1 = .ok (.getfield 35, 3) := by decide +kernel
theorem dX8_rank_4 : decode cX8_rank 4 = .ok (.iload_n 1, 1) := by decide +kernel
theorem dX8_rank_5 : decode cX8_rank 5 = .ok (.iload_n 2, 1) := by decide +kernel
theorem dX8_rank_6 : decode cX8_rank 6 = .ok (.invokevirtual 144, 3) := by decide +kernel
theorem dX8_rank_9 : decode cX8_rank 9 = .ok (.astore_n 3, 1) := by decide +kernel
theorem dX8_rank_10 : decode cX8_rank 10 = .ok (.aload_n 3, 1) := by decide +kernel
theorem dX8_rank_11 : decode cX8_rank 11 = .ok (.ifnonnull 7, 3) := by decide +kernel
theorem dX8_rank_14 : decode cX8_rank 14 = .ok (.iconst (-1), 1) := by decide +kernel
theorem dX8_rank_15 : decode cX8_rank 15 = .ok (.goto 7, 3) := by decide +kernel
theorem dX8_rank_18 : decode cX8_rank 18 = .ok (.aload_n 3, 1) := by decide +kernel
theorem dX8_rank_19 : decode cX8_rank 19 = .ok (.invokevirtual 148, 3) := by decide +kernel
theorem dX8_rank_22 : decode cX8_rank 22 = .ok (.ireturn, 1) := by decide +kernel
theorem dX8_row_0 : decode cX8_row 0 = .ok (.aload_n 0, 1) := by decide +kernel
theorem dX8_row_1 : decode cX8_row 1 = .ok (.getfield 35, 3) := by decide +kernel
theorem dX8_row_4 : decode cX8_row 4 = .ok (.iload_n 1, 1) := by decide +kernel
theorem dX8_row_5 : decode cX8_row 5 = .ok (.invokevirtual 153, 3) := by decide +kernel
theorem dX8_row_8 : decode cX8_row 8 = .ok (.astore 5, 2) := by decide +kernel
theorem dX8_row_10 : decode cX8_row 10 = .ok (.aload_n 0, 1) := by decide +kernel
theorem dX8_row_11 : decode cX8_row 11 = .ok (.getfield 35, 3) := by decide +kernel
theorem dX8_row_14 : decode cX8_row 14 = .ok (.iload_n 1, 1) := by decide +kernel
theorem dX8_row_15 : decode cX8_row 15 = .ok (.iload_n 2, 1) := by decide +kernel
theorem dX8_row_16 : decode cX8_row 16 = .ok (.invokevirtual 144, 3) := by decide +kernel
theorem dX8_row_19 : decode cX8_row 19 = .ok (.astore 6, 2) := by decide +kernel
theorem dX8_row_21 : decode cX8_row 21 = .ok (.aload 5, 2) := by decide +kernel
theorem dX8_row_23 : decode cX8_row 23 = .ok (.ifnull 8, 3) := by decide +kernel
theorem dX8_row_26 : decode cX8_row 26 = .ok (.aload 6, 2) := by decide +kernel
theorem dX8_row_28 : decode cX8_row 28 = .ok (.ifnonnull 5, 3) := by decide +kernel
theorem dX8_row_31 : decode cX8_row 31 = .ok (.iconst (-1), 1) := by decide +kernel
theorem dX8_row_32 : decode cX8_row 32 = .ok (.ireturn, 1) := by decide +kernel
theorem dX8_row_33 : decode cX8_row 33 = .ok (.aload 6, 2) := by decide +kernel
theorem dX8_row_35 : decode cX8_row 35 = .ok (.iload_n 3, 1) := by decide +kernel
theorem dX8_row_36 : decode cX8_row 36 = .ok (.invokevirtual 157, 3) := by decide +kernel
theorem dX8_row_39 : decode cX8_row 39 = .ok (.istore 7, 2) := by decide +kernel
theorem dX8_row_41 : decode cX8_row 41 = .ok (.iload 7, 2) := by decide +kernel
theorem dX8_row_43 : decode cX8_row 43 = .ok (.ifCond .ge 5, 3) := by decide +kernel
theorem dX8_row_46 : decode cX8_row 46 = .ok (.iconst (-1), 1) := by decide +kernel
theorem dX8_row_47 : decode cX8_row 47 = .ok (.ireturn, 1) := by decide +kernel
theorem dX8_row_48 : decode cX8_row 48 = .ok (.iload 4, 2) := by decide +kernel
theorem dX8_row_50 : decode cX8_row 50 = .ok (.ifCond .lt 15, 3) := by decide +kernel
theorem dX8_row_53 : decode cX8_row 53 = .ok (.iload 4, 2) := by decide +kernel
theorem dX8_row_55 : decode cX8_row 55 = .ok (.aload 5, 2) := by decide +kernel
theorem dX8_row_57 : decode cX8_row 57 = .ok (.getfield 160, 3) := by decide +kernel
theorem dX8_row_60 : decode cX8_row 60 = .ok (.iconst 3, 1) := by decide +kernel
theorem dX8_row_61 : decode cX8_row 61 = .ok (.iadd, 1) := by decide +kernel
theorem dX8_row_62 : decode cX8_row 62 = .ok (.if_icmp .lt 6, 3) := by decide +kernel
theorem dX8_row_65 : decode cX8_row 65 = .ok (.bipush (-2), 2) := by decide +kernel
theorem dX8_row_67 : decode cX8_row 67 = .ok (.ireturn, 1) := by decide +kernel
theorem dX8_row_68 : decode cX8_row 68 = .ok (.aload 6, 2) := by decide +kernel
theorem dX8_row_70 : decode cX8_row 70 = .ok (.iload 7, 2) := by decide +kernel
theorem dX8_row_72 : decode cX8_row 72 = .ok (.iload 4, 2) := by decide +kernel
theorem dX8_row_74 : decode cX8_row 74 = .ok (.aload 5, 2) := by decide +kernel
theorem dX8_row_76 : decode cX8_row 76 = .ok (.getfield 160, 3) := by decide +kernel
theorem dX8_row_79 : decode cX8_row 79 = .ok (.if_icmp .ge 8, 3) := by decide +kernel
theorem dX8_row_82 : decode cX8_row 82 = .ok (.iload 4, 2) := by decide +kernel
theorem dX8_row_84 : decode cX8_row 84 = .ok (.goto 13, 3) := by decide +kernel
theorem dX8_row_87 : decode cX8_row 87 = .ok (.iconst 5, 1) := by decide +kernel
theorem dX8_row_88 : decode cX8_row 88 = .ok (.iload 4, 2) := by decide +kernel
theorem dX8_row_90 : decode cX8_row 90 = .ok (.iadd, 1) := by decide +kernel
theorem dX8_row_91 : decode cX8_row 91 = .ok (.aload 5, 2) := by decide +kernel
theorem dX8_row_93 : decode cX8_row 93 = .ok (.getfield 160, 3) := by decide +kernel
theorem dX8_row_96 : decode cX8_row 96 = .ok (.isub, 1) := by decide +kernel
theorem dX8_row_97 : decode cX8_row 97 = .ok (.invokevirtual 165, 3) := by decide +kernel
theorem dX8_row_100 : decode cX8_row 100 = .ok (.ireturn, 1) := by decide +kernel
theorem dX8_read_0 : decode cX8_read 0 = .ok (.aload_n 0, 1) := by decide +kernel
theorem dX8_read_1 : decode cX8_read 1 = .ok (.getfield 35, 3) := by decide +kernel
theorem dX8_read_4 : decode cX8_read 4 = .ok (.iload_n 1, 1) := by decide +kernel
theorem dX8_read_5 : decode cX8_read 5 = .ok (.invokevirtual 153, 3) := by decide +kernel
theorem dX8_read_8 : decode cX8_read 8 = .ok (.astore 5, 2) := by decide +kernel
theorem dX8_read_10 : decode cX8_read 10 = .ok (.aload_n 0, 1) := by decide +kernel
theorem dX8_read_11 : decode cX8_read 11 = .ok (.getfield 35, 3) := by decide +kernel
theorem dX8_read_14 : decode cX8_read 14 = .ok (.iload_n 1, 1) := by decide +kernel
theorem dX8_read_15 : decode cX8_read 15 = .ok (.iload_n 2, 1) := by decide +kernel
theorem dX8_read_16 : decode cX8_read 16 = .ok (.invokevirtual 144, 3) := by decide +kernel
theorem dX8_read_19 : decode cX8_read 19 = .ok (.astore 6, 2) := by decide +kernel
theorem dX8_read_21 : decode cX8_read 21 = .ok (.aload 5, 2) := by decide +kernel
theorem dX8_read_23 : decode cX8_read 23 = .ok (.ifnull 8, 3) := by decide +kernel
theorem dX8_read_26 : decode cX8_read 26 = .ok (.aload 6, 2) := by decide +kernel
theorem dX8_read_28 : decode cX8_read 28 = .ok (.ifnonnull 5, 3) := by decide +kernel
theorem dX8_read_31 : decode cX8_read 31 = .ok (.iconst (-1), 1) := by decide +kernel
theorem dX8_read_32 : decode cX8_read 32 = .ok (.ireturn, 1) := by decide +kernel
theorem dX8_read_33 : decode cX8_read 33 = .ok (.iload_n 3, 1) := by decide +kernel
theorem dX8_read_34 : decode cX8_read 34 = .ok (.ifCond .lt 23, 3) := by decide +kernel
theorem dX8_read_37 : decode cX8_read 37 = .ok (.iload_n 3, 1) := by decide +kernel
theorem dX8_read_38 : decode cX8_read 38 = .ok (.aload 5, 2) := by decide +kernel
theorem dX8_read_40 : decode cX8_read 40 = .ok (.getfield 160, 3) := by decide +kernel
theorem dX8_read_43 : decode cX8_read 43 = .ok (.if_icmp .ge 14, 3) := by decide +kernel
theorem dX8_read_46 : decode cX8_read 46 = .ok (.iload 4, 2) := by decide +kernel
theorem dX8_read_48 : decode cX8_read 48 = .ok (.ifCond .lt 9, 3) := by decide +kernel
theorem dX8_read_51 : decode cX8_read 51 = .ok (.iload 4, 2) := by decide +kernel
theorem dX8_read_53 : decode cX8_read 53 = .ok (.iconst 3, 1) := by decide +kernel
theorem dX8_read_54 : decode cX8_read 54 = .ok (.if_icmp .lt 6, 3) := by decide +kernel
theorem dX8_read_57 : decode cX8_read 57 = .ok (.bipush (-2), 2) := by decide +kernel
theorem dX8_read_59 : decode cX8_read 59 = .ok (.ireturn, 1) := by decide +kernel
theorem dX8_read_60 : decode cX8_read 60 = .ok (.aload 6, 2) := by decide +kernel
theorem dX8_read_62 : decode cX8_read 62 = .ok (.iload_n 3, 1) := by decide +kernel
theorem dX8_read_63 : decode cX8_read 63 = .ok (.invokevirtual 168, 3) := by decide +kernel
theorem dX8_read_66 : decode cX8_read 66 = .ok (.ifCond .eq 16, 3) := by decide +kernel
theorem dX8_read_69 : decode cX8_read 69 = .ok (.aload 6, 2) := by decide +kernel
theorem dX8_read_71 : decode cX8_read 71 = .ok (.iload_n 3, 1) := by decide +kernel
theorem dX8_read_72 : decode cX8_read 72 = .ok (.iconst 5, 1) := by decide +kernel
theorem dX8_read_73 : decode cX8_read 73 = .ok (.iload 4, 2) := by decide +kernel
theorem dX8_read_75 : decode cX8_read 75 = .ok (.iadd, 1) := by decide +kernel
theorem dX8_read_76 : decode cX8_read 76 = .ok (.invokevirtual 165, 3) := by decide +kernel
theorem dX8_read_79 : decode cX8_read 79 = .ok (.goto 5, 3) := by decide +kernel
theorem dX8_read_82 : decode cX8_read 82 = .ok (.bipush (-9), 2) := by decide +kernel
theorem dX8_read_84 : decode cX8_read 84 = .ok (.ireturn, 1) := by decide +kernel
theorem dX8_mix_0 : decode cX8_mix 0 = .ok (.aload_n 0, 1) := by decide +kernel
theorem dX8_mix_1 : decode cX8_mix 1 = .ok (.getfield 35, 3) := by decide +kernel
theorem dX8_mix_4 : decode cX8_mix 4 = .ok (.iload_n 1, 1) := by decide +kernel
theorem dX8_mix_5 : decode cX8_mix 5 = .ok (.iload_n 2, 1) := by decide +kernel
theorem dX8_mix_6 : decode cX8_mix 6 = .ok (.invokevirtual 144, 3) := by decide +kernel
theorem dX8_mix_9 : decode cX8_mix 9 = .ok (.astore 5, 2) := by decide +kernel
theorem dX8_mix_11 : decode cX8_mix 11 = .ok (.aload_n 0, 1) := by decide +kernel
theorem dX8_mix_12 : decode cX8_mix 12 = .ok (.getfield 35, 3) := by decide +kernel
theorem dX8_mix_15 : decode cX8_mix 15 = .ok (.iload_n 1, 1) := by decide +kernel
theorem dX8_mix_16 : decode cX8_mix 16 = .ok (.iload_n 3, 1) := by decide +kernel
theorem dX8_mix_17 : decode cX8_mix 17 = .ok (.invokevirtual 144, 3) := by decide +kernel
theorem dX8_mix_20 : decode cX8_mix 20 = .ok (.astore 6, 2) := by decide +kernel
theorem dX8_mix_22 : decode cX8_mix 22 = .ok (.aload 5, 2) := by decide +kernel
theorem dX8_mix_24 : decode cX8_mix 24 = .ok (.ifnull 8, 3) := by decide +kernel
theorem dX8_mix_27 : decode cX8_mix 27 = .ok (.aload 6, 2) := by decide +kernel
theorem dX8_mix_29 : decode cX8_mix 29 = .ok (.ifnonnull 5, 3) := by decide +kernel
theorem dX8_mix_32 : decode cX8_mix 32 = .ok (.iconst (-1), 1) := by decide +kernel
theorem dX8_mix_33 : decode cX8_mix 33 = .ok (.ireturn, 1) := by decide +kernel
theorem dX8_mix_34 : decode cX8_mix 34 = .ok (.iload 4, 2) := by decide +kernel
theorem dX8_mix_36 : decode cX8_mix 36 = .ok (.ifCond .lt 11, 3) := by decide +kernel
theorem dX8_mix_39 : decode cX8_mix 39 = .ok (.iload 4, 2) := by decide +kernel
theorem dX8_mix_41 : decode cX8_mix 41 = .ok (.sipush 16807, 3) := by decide +kernel
theorem dX8_mix_44 : decode cX8_mix 44 = .ok (.if_icmp .lt 6, 3) := by decide +kernel
theorem dX8_mix_47 : decode cX8_mix 47 = .ok (.bipush (-2), 2) := by decide +kernel
theorem dX8_mix_49 : decode cX8_mix 49 = .ok (.ireturn, 1) := by decide +kernel
theorem dX8_mix_50 : decode cX8_mix 50 = .ok (.iload_n 2, 1) := by decide +kernel
theorem dX8_mix_51 : decode cX8_mix 51 = .ok (.iload_n 3, 1) := by decide +kernel
theorem dX8_mix_52 : decode cX8_mix 52 = .ok (.if_icmp .ne 6, 3) := by decide +kernel
theorem dX8_mix_55 : decode cX8_mix 55 = .ok (.bipush (-3), 2) := by decide +kernel
theorem dX8_mix_57 : decode cX8_mix 57 = .ok (.ireturn, 1) := by decide +kernel
theorem dX8_mix_58 : decode cX8_mix 58 = .ok (.aload_n 0, 1) := by decide +kernel
theorem dX8_mix_59 : decode cX8_mix 59 = .ok (.getfield 35, 3) := by decide +kernel
theorem dX8_mix_62 : decode cX8_mix 62 = .ok (.aload 5, 2) := by decide +kernel
theorem dX8_mix_64 : decode cX8_mix 64 = .ok (.aload 6, 2) := by decide +kernel
theorem dX8_mix_66 : decode cX8_mix 66 = .ok (.iload 4, 2) := by decide +kernel
theorem dX8_mix_68 : decode cX8_mix 68 = .ok (.invokevirtual 171, 3) := by decide +kernel
theorem dX8_mix_71 : decode cX8_mix 71 = .ok (.ifCond .eq 7, 3) := by decide +kernel
theorem dX8_mix_74 : decode cX8_mix 74 = .ok (.iconst 1, 1) := by decide +kernel
theorem dX8_mix_75 : decode cX8_mix 75 = .ok (.goto 4, 3) := by decide +kernel
theorem dX8_mix_78 : decode cX8_mix 78 = .ok (.iconst 0, 1) := by decide +kernel
theorem dX8_mix_79 : decode cX8_mix 79 = .ok (.ireturn, 1) := by decide +kernel
theorem dX8_draw_0 : decode cX8_draw 0 = .ok (.aload_n 0, 1) := by decide +kernel
theorem dX8_draw_1 : decode cX8_draw 1 = .ok (.getfield 35, 3) := by decide +kernel
theorem dX8_draw_4 : decode cX8_draw 4 = .ok (.iload_n 1, 1) := by decide +kernel
theorem dX8_draw_5 : decode cX8_draw 5 = .ok (.iload_n 2, 1) := by decide +kernel
theorem dX8_draw_6 : decode cX8_draw 6 = .ok (.invokevirtual 144, 3) := by decide +kernel
theorem dX8_draw_9 : decode cX8_draw 9 = .ok (.astore 4, 2) := by decide +kernel
theorem dX8_draw_11 : decode cX8_draw 11 = .ok (.aload_n 0, 1) := by decide +kernel
theorem dX8_draw_12 : decode cX8_draw 12 = .ok (.getfield 35, 3) := by decide +kernel
theorem dX8_draw_15 : decode cX8_draw 15 = .ok (.iload_n 1, 1) := by decide +kernel
theorem dX8_draw_16 : decode cX8_draw 16 = .ok (.iload_n 3, 1) := by decide +kernel
theorem dX8_draw_17 : decode cX8_draw 17 = .ok (.invokevirtual 144, 3) := by decide +kernel
theorem dX8_draw_20 : decode cX8_draw 20 = .ok (.astore 5, 2) := by decide +kernel
theorem dX8_draw_22 : decode cX8_draw 22 = .ok (.aload 4, 2) := by decide +kernel
theorem dX8_draw_24 : decode cX8_draw 24 = .ok (.ifnull 8, 3) := by decide +kernel
theorem dX8_draw_27 : decode cX8_draw 27 = .ok (.aload 5, 2) := by decide +kernel
theorem dX8_draw_29 : decode cX8_draw 29 = .ok (.ifnonnull 5, 3) := by decide +kernel
theorem dX8_draw_32 : decode cX8_draw 32 = .ok (.iconst (-1), 1) := by decide +kernel
theorem dX8_draw_33 : decode cX8_draw 33 = .ok (.ireturn, 1) := by decide +kernel
theorem dX8_draw_34 : decode cX8_draw 34 = .ok (.iload_n 2, 1) := by decide +kernel
theorem dX8_draw_35 : decode cX8_draw 35 = .ok (.iload_n 3, 1) := by decide +kernel
theorem dX8_draw_36 : decode cX8_draw 36 = .ok (.if_icmp .ne 6, 3) := by decide +kernel
theorem dX8_draw_39 : decode cX8_draw 39 = .ok (.bipush (-3), 2) := by decide +kernel
theorem dX8_draw_41 : decode cX8_draw 41 = .ok (.ireturn, 1) := by decide +kernel
theorem dX8_draw_42 : decode cX8_draw 42 = .ok (.aload_n 0, 1) := by decide +kernel
theorem dX8_draw_43 : decode cX8_draw 43 = .ok (.getfield 26, 3) := by decide +kernel
theorem dX8_draw_46 : decode cX8_draw 46 = .ok (.invokevirtual 175, 3) := by decide +kernel
theorem dX8_draw_49 : decode cX8_draw 49 = .ok (.istore 6, 2) := by decide +kernel
theorem dX8_draw_51 : decode cX8_draw 51 = .ok (.aload_n 0, 1) := by decide +kernel
theorem dX8_draw_52 : decode cX8_draw 52 = .ok (.getfield 35, 3) := by decide +kernel
theorem dX8_draw_55 : decode cX8_draw 55 = .ok (.aload 4, 2) := by decide +kernel
theorem dX8_draw_57 : decode cX8_draw 57 = .ok (.aload 5, 2) := by decide +kernel
theorem dX8_draw_59 : decode cX8_draw 59 = .ok (.iload 6, 2) := by decide +kernel
theorem dX8_draw_61 : decode cX8_draw 61 = .ok (.invokevirtual 171, 3) := by decide +kernel
theorem dX8_draw_64 : decode cX8_draw 64 = .ok (.pop, 1) := by decide +kernel
theorem dX8_draw_65 : decode cX8_draw 65 = .ok (.iload 6, 2) := by decide +kernel
theorem dX8_draw_67 : decode cX8_draw 67 = .ok (.ireturn, 1) := by decide +kernel
theorem dX8_fresh_0 : decode cX8_fresh 0 = .ok (.aload_n 0, 1) := by decide +kernel
theorem dX8_fresh_1 : decode cX8_fresh 1 = .ok (.getfield 35, 3) := by decide +kernel
theorem dX8_fresh_4 : decode cX8_fresh 4 = .ok (.iload_n 1, 1) := by decide +kernel
theorem dX8_fresh_5 : decode cX8_fresh 5 = .ok (.iload_n 2, 1) := by decide +kernel
theorem dX8_fresh_6 : decode cX8_fresh 6 = .ok (.invokevirtual 144, 3) := by decide +kernel
theorem dX8_fresh_9 : decode cX8_fresh 9 = .ok (.astore 4, 2) := by decide +kernel
theorem dX8_fresh_11 : decode cX8_fresh 11 = .ok (.aload_n 0, 1) := by decide +kernel
theorem dX8_fresh_12 : decode cX8_fresh 12 = .ok (.getfield 35, 3) := by decide +kernel
theorem dX8_fresh_15 : decode cX8_fresh 15 = .ok (.iload_n 1, 1) := by decide +kernel
theorem dX8_fresh_16 : decode cX8_fresh 16 = .ok (.iload_n 3, 1) := by decide +kernel
theorem dX8_fresh_17 : decode cX8_fresh 17 = .ok (.invokevirtual 144, 3) := by decide +kernel
theorem dX8_fresh_20 : decode cX8_fresh 20 = .ok (.astore 5, 2) := by decide +kernel
theorem dX8_fresh_22 : decode cX8_fresh 22 = .ok (.aload 4, 2) := by decide +kernel
theorem dX8_fresh_24 : decode cX8_fresh 24 = .ok (.ifnull 8, 3) := by decide +kernel
theorem dX8_fresh_27 : decode cX8_fresh 27 = .ok (.aload 5, 2) := by decide +kernel
theorem dX8_fresh_29 : decode cX8_fresh 29 = .ok (.ifnonnull 5, 3) := by decide +kernel
theorem dX8_fresh_32 : decode cX8_fresh 32 = .ok (.iconst (-1), 1) := by decide +kernel
theorem dX8_fresh_33 : decode cX8_fresh 33 = .ok (.ireturn, 1) := by decide +kernel
theorem dX8_fresh_34 : decode cX8_fresh 34 = .ok (.iload_n 2, 1) := by decide +kernel
theorem dX8_fresh_35 : decode cX8_fresh 35 = .ok (.iload_n 3, 1) := by decide +kernel
theorem dX8_fresh_36 : decode cX8_fresh 36 = .ok (.if_icmp .ne 8, 3) := by decide +kernel
theorem dX8_fresh_39 : decode cX8_fresh 39 = .ok (.bipush (-3), 2) := by decide +kernel
theorem dX8_fresh_41 : decode cX8_fresh 41 = .ok (.goto 14, 3) := by decide +kernel
theorem dX8_fresh_44 : decode cX8_fresh 44 = .ok (.aload_n 0, 1) := by decide +kernel
theorem dX8_fresh_45 : decode cX8_fresh 45 = .ok (.getfield 35, 3) := by decide +kernel
theorem dX8_fresh_48 : decode cX8_fresh 48 = .ok (.aload 4, 2) := by decide +kernel
theorem dX8_fresh_50 : decode cX8_fresh 50 = .ok (.aload 5, 2) := by decide +kernel
theorem dX8_fresh_52 : decode cX8_fresh 52 = .ok (.invokevirtual 178, 3) := by decide +kernel
theorem dX8_fresh_55 : decode cX8_fresh 55 = .ok (.ireturn, 1) := by decide +kernel
theorem dX8_forAll_0 : decode cX8_forAll 0 = .ok (.aload_n 0, 1) := by decide +kernel
theorem dX8_forAll_1 : decode cX8_forAll 1 = .ok (.getfield 35, 3) := by decide +kernel
theorem dX8_forAll_4 : decode cX8_forAll 4 = .ok (.iload_n 1, 1) := by decide +kernel
theorem dX8_forAll_5 : decode cX8_forAll 5 = .ok (.invokevirtual 153, 3) := by decide +kernel
theorem dX8_forAll_8 : decode cX8_forAll 8 = .ok (.astore_n 3, 1) := by decide +kernel
theorem dX8_forAll_9 : decode cX8_forAll 9 = .ok (.aload_n 3, 1) := by decide +kernel
theorem dX8_forAll_10 : decode cX8_forAll 10 = .ok (.ifnull 12, 3) := by decide +kernel
theorem dX8_forAll_13 : decode cX8_forAll 13 = .ok (.iload_n 2, 1) := by decide +kernel
theorem dX8_forAll_14 : decode cX8_forAll 14 = .ok (.ifCond .lt 8, 3) := by decide +kernel
theorem dX8_forAll_17 : decode cX8_forAll 17 = .ok (.iload_n 2, 1) := by decide +kernel
theorem dX8_forAll_18 : decode cX8_forAll 18 = .ok (.iconst 4, 1) := by decide +kernel
theorem dX8_forAll_19 : decode cX8_forAll 19 = .ok (.if_icmp .lt 5, 3) := by decide +kernel
theorem dX8_forAll_22 : decode cX8_forAll 22 = .ok (.iconst (-1), 1) := by decide +kernel
theorem dX8_forAll_23 : decode cX8_forAll 23 = .ok (.ireturn, 1) := by decide +kernel
theorem dX8_forAll_24 : decode cX8_forAll 24 = .ok (.aload_n 0, 1) := by decide +kernel
theorem dX8_forAll_25 : decode cX8_forAll 25 = .ok (.getfield 35, 3) := by decide +kernel
theorem dX8_forAll_28 : decode cX8_forAll 28 = .ok (.aload_n 3, 1) := by decide +kernel
theorem dX8_forAll_29 : decode cX8_forAll 29 = .ok (.iload_n 2, 1) := by decide +kernel
theorem dX8_forAll_30 : decode cX8_forAll 30 = .ok (.invokevirtual 182, 3) := by decide +kernel
theorem dX8_forAll_33 : decode cX8_forAll 33 = .ok (.ireturn, 1) := by decide +kernel
theorem dX8_sweep_0 : decode cX8_sweep 0 = .ok (.aload_n 0, 1) := by decide +kernel
theorem dX8_sweep_1 : decode cX8_sweep 1 = .ok (.getfield 35, 3) := by decide +kernel
theorem dX8_sweep_4 : decode cX8_sweep 4 = .ok (.invokevirtual 186, 3) := by decide +kernel
theorem dX8_sweep_7 : decode cX8_sweep 7 = .ok (.ireturn, 1) := by decide +kernel
theorem dX8_opened_0 : decode cX8_opened 0 = .ok (.iload_n 1, 1) := by decide +kernel
theorem dX8_opened_1 : decode cX8_opened 1 = .ok (.ifCond .lt 14, 3) := by decide +kernel
theorem dX8_opened_4 : decode cX8_opened 4 = .ok (.iload_n 1, 1) := by decide +kernel
theorem dX8_opened_5 : decode cX8_opened 5 = .ok (.aload_n 0, 1) := by decide +kernel
theorem dX8_opened_6 : decode cX8_opened 6 = .ok (.getfield 35, 3) := by decide +kernel
theorem dX8_opened_9 : decode cX8_opened 9 = .ok (.getfield 189, 3) := by decide +kernel
theorem dX8_opened_12 : decode cX8_opened 12 = .ok (.if_icmp .lt 7, 3) := by decide +kernel
theorem dX8_opened_15 : decode cX8_opened 15 = .ok (.iconst (-1), 1) := by decide +kernel
theorem dX8_opened_16 : decode cX8_opened 16 = .ok (.goto 15, 3) := by decide +kernel
theorem dX8_opened_19 : decode cX8_opened 19 = .ok (.aload_n 0, 1) := by decide +kernel
theorem dX8_opened_20 : decode cX8_opened 20 = .ok (.getfield 35, 3) := by decide +kernel
theorem dX8_opened_23 : decode cX8_opened 23 = .ok (.getfield 192, 3) := by decide +kernel
theorem dX8_opened_26 : decode cX8_opened 26 = .ok (.iload_n 1, 1) := by decide +kernel
theorem dX8_opened_27 : decode cX8_opened 27 = .ok (.aaload, 1) := by decide +kernel
theorem dX8_opened_28 : decode cX8_opened 28 = .ok (.getfield 196, 3) := by decide +kernel
theorem dX8_opened_31 : decode cX8_opened 31 = .ok (.ireturn, 1) := by decide +kernel
theorem dX8_text_0 : decode cX8_text 0 = .ok (.aload_n 0, 1) := by decide +kernel
theorem dX8_text_1 : decode cX8_text 1 = .ok (.getfield 12, 3) := by decide +kernel
theorem dX8_text_4 : decode cX8_text 4 = .ok (.iload_n 1, 1) := by decide +kernel
theorem dX8_text_5 : decode cX8_text 5 = .ok (.invokevirtual 107, 3) := by decide +kernel
theorem dX8_text_8 : decode cX8_text 8 = .ok (.ifCond .eq 14, 3) := by decide +kernel
theorem dX8_text_11 : decode cX8_text 11 = .ok (.iload_n 2, 1) := by decide +kernel
theorem dX8_text_12 : decode cX8_text 12 = .ok (.iconst (-1), 1) := by decide +kernel
theorem dX8_text_13 : decode cX8_text 13 = .ok (.if_icmp .lt 9, 3) := by decide +kernel
theorem dX8_text_16 : decode cX8_text 16 = .ok (.iload_n 2, 1) := by decide +kernel
theorem dX8_text_17 : decode cX8_text 17 = .ok (.bipush 39, 2) := by decide +kernel
theorem dX8_text_19 : decode cX8_text 19 = .ok (.if_icmp .le 6, 3) := by decide +kernel
theorem dX8_text_22 : decode cX8_text 22 = .ok (.bipush (-2), 2) := by decide +kernel
theorem dX8_text_24 : decode cX8_text 24 = .ok (.ireturn, 1) := by decide +kernel
theorem dX8_text_25 : decode cX8_text 25 = .ok (.aload_n 0, 1) := by decide +kernel
theorem dX8_text_26 : decode cX8_text 26 = .ok (.getfield 42, 3) := by decide +kernel
theorem dX8_text_29 : decode cX8_text 29 = .ok (.iload_n 1, 1) := by decide +kernel
theorem dX8_text_30 : decode cX8_text 30 = .ok (.aload_n 0, 1) := by decide +kernel
theorem dX8_text_31 : decode cX8_text 31 = .ok (.getfield 12, 3) := by decide +kernel
theorem dX8_text_34 : decode cX8_text 34 = .ok (.iload_n 1, 1) := by decide +kernel
theorem dX8_text_35 : decode cX8_text 35 = .ok (.invokevirtual 113, 3) := by decide +kernel
theorem dX8_text_38 : decode cX8_text 38 = .ok (.invokevirtual 199, 3) := by decide +kernel
theorem dX8_text_41 : decode cX8_text 41 = .ok (.aload_n 0, 1) := by decide +kernel
theorem dX8_text_42 : decode cX8_text 42 = .ok (.getfield 42, 3) := by decide +kernel
theorem dX8_text_45 : decode cX8_text 45 = .ok (.iload_n 2, 1) := by decide +kernel
theorem dX8_text_46 : decode cX8_text 46 = .ok (.invokevirtual 202, 3) := by decide +kernel
theorem dX8_text_49 : decode cX8_text 49 = .ok (.ireturn, 1) := by decide +kernel
theorem dX8_rows_0 : decode cX8_rows 0 = .ok (.aload_n 0, 1) := by decide +kernel
theorem dX8_rows_1 : decode cX8_rows 1 = .ok (.getfield 35, 3) := by decide +kernel
theorem dX8_rows_4 : decode cX8_rows 4 = .ok (.iload_n 1, 1) := by decide +kernel
theorem dX8_rows_5 : decode cX8_rows 5 = .ok (.invokevirtual 153, 3) := by decide +kernel
theorem dX8_rows_8 : decode cX8_rows 8 = .ok (.astore 4, 2) := by decide +kernel
theorem dX8_rows_10 : decode cX8_rows 10 = .ok (.aload_n 0, 1) := by decide +kernel
theorem dX8_rows_11 : decode cX8_rows 11 = .ok (.getfield 35, 3) := by decide +kernel
theorem dX8_rows_14 : decode cX8_rows 14 = .ok (.iload_n 1, 1) := by decide +kernel
theorem dX8_rows_15 : decode cX8_rows 15 = .ok (.iload_n 2, 1) := by decide +kernel
theorem dX8_rows_16 : decode cX8_rows 16 = .ok (.invokevirtual 144, 3) := by decide +kernel
theorem dX8_rows_19 : decode cX8_rows 19 = .ok (.astore 5, 2) := by decide +kernel
theorem dX8_rows_21 : decode cX8_rows 21 = .ok (.aload 4, 2) := by decide +kernel
theorem dX8_rows_23 : decode cX8_rows 23 = .ok (.ifnull 8, 3) := by decide +kernel
theorem dX8_rows_26 : decode cX8_rows 26 = .ok (.aload 5, 2) := by decide +kernel
theorem dX8_rows_28 : decode cX8_rows 28 = .ok (.ifnonnull 5, 3) := by decide +kernel
theorem dX8_rows_31 : decode cX8_rows 31 = .ok (.iconst (-1), 1) := by decide +kernel
theorem dX8_rows_32 : decode cX8_rows 32 = .ok (.ireturn, 1) := by decide +kernel
theorem dX8_rows_33 : decode cX8_rows 33 = .ok (.iload_n 3, 1) := by decide +kernel
theorem dX8_rows_34 : decode cX8_rows 34 = .ok (.iconst (-1), 1) := by decide +kernel
theorem dX8_rows_35 : decode cX8_rows 35 = .ok (.if_icmp .lt 9, 3) := by decide +kernel
theorem dX8_rows_38 : decode cX8_rows 38 = .ok (.iload_n 3, 1) := by decide +kernel
theorem dX8_rows_39 : decode cX8_rows 39 = .ok (.bipush 59, 2) := by decide +kernel
theorem dX8_rows_41 : decode cX8_rows 41 = .ok (.if_icmp .le 6, 3) := by decide +kernel
theorem dX8_rows_44 : decode cX8_rows 44 = .ok (.bipush (-2), 2) := by decide +kernel
theorem dX8_rows_46 : decode cX8_rows 46 = .ok (.ireturn, 1) := by decide +kernel
theorem dX8_rows_47 : decode cX8_rows 47 = .ok (.aload_n 0, 1) := by decide +kernel
theorem dX8_rows_48 : decode cX8_rows 48 = .ok (.getfield 42, 3) := by decide +kernel
theorem dX8_rows_51 : decode cX8_rows 51 = .ok (.aload 5, 2) := by decide +kernel
theorem dX8_rows_53 : decode cX8_rows 53 = .ok (.aload 4, 2) := by decide +kernel
theorem dX8_rows_55 : decode cX8_rows 55 = .ok (.getfield 160, 3) := by decide +kernel
theorem dX8_rows_58 : decode cX8_rows 58 = .ok (.invokevirtual 205, 3) := by decide +kernel
theorem dX8_rows_61 : decode cX8_rows 61 = .ok (.aload_n 0, 1) := by decide +kernel
theorem dX8_rows_62 : decode cX8_rows 62 = .ok (.getfield 42, 3) := by decide +kernel
theorem dX8_rows_65 : decode cX8_rows 65 = .ok (.iload_n 3, 1) := by decide +kernel
theorem dX8_rows_66 : decode cX8_rows 66 = .ok (.invokevirtual 202, 3) := by decide +kernel
theorem dX8_rows_69 : decode cX8_rows 69 = .ok (.ireturn, 1) := by decide +kernel
theorem dX8_many_0 : decode cX8_many 0 = .ok (.iload_n 1, 1) := by decide +kernel
theorem dX8_many_1 : decode cX8_many 1 = .ok (.tableswitch 132 0 8 #[51, 62, 73, 81, 89, 97, 105, 113, 121], 51) := by decide +kernel
theorem dX8_many_52 : decode cX8_many 52 = .ok (.aload_n 0, 1) := by decide +kernel
theorem dX8_many_53 : decode cX8_many 53 = .ok (.getfield 12, 3) := by decide +kernel
theorem dX8_many_56 : decode cX8_many 56 = .ok (.getfield 209, 3) := by decide +kernel
theorem dX8_many_59 : decode cX8_many 59 = .ok (.invokestatic 212, 3) := by decide +kernel
theorem dX8_many_62 : decode cX8_many 62 = .ok (.ireturn, 1) := by decide +kernel
theorem dX8_many_63 : decode cX8_many 63 = .ok (.aload_n 0, 1) := by decide +kernel
theorem dX8_many_64 : decode cX8_many 64 = .ok (.getfield 12, 3) := by decide +kernel
theorem dX8_many_67 : decode cX8_many 67 = .ok (.getfield 71, 3) := by decide +kernel
theorem dX8_many_70 : decode cX8_many 70 = .ok (.getfield 84, 3) := by decide +kernel
theorem dX8_many_73 : decode cX8_many 73 = .ok (.ireturn, 1) := by decide +kernel
theorem dX8_many_74 : decode cX8_many 74 = .ok (.aload_n 0, 1) := by decide +kernel
theorem dX8_many_75 : decode cX8_many 75 = .ok (.getfield 12, 3) := by decide +kernel
theorem dX8_many_78 : decode cX8_many 78 = .ok (.getfield 217, 3) := by decide +kernel
theorem dX8_many_81 : decode cX8_many 81 = .ok (.ireturn, 1) := by decide +kernel
theorem dX8_many_82 : decode cX8_many 82 = .ok (.aload_n 0, 1) := by decide +kernel
theorem dX8_many_83 : decode cX8_many 83 = .ok (.getfield 12, 3) := by decide +kernel
theorem dX8_many_86 : decode cX8_many 86 = .ok (.getfield 220, 3) := by decide +kernel
theorem dX8_many_89 : decode cX8_many 89 = .ok (.ireturn, 1) := by decide +kernel
theorem dX8_many_90 : decode cX8_many 90 = .ok (.aload_n 0, 1) := by decide +kernel
theorem dX8_many_91 : decode cX8_many 91 = .ok (.getfield 26, 3) := by decide +kernel
theorem dX8_many_94 : decode cX8_many 94 = .ok (.getfield 135, 3) := by decide +kernel
theorem dX8_many_97 : decode cX8_many 97 = .ok (.ireturn, 1) := by decide +kernel
theorem dX8_many_98 : decode cX8_many 98 = .ok (.aload_n 0, 1) := by decide +kernel
theorem dX8_many_99 : decode cX8_many 99 = .ok (.getfield 35, 3) := by decide +kernel
theorem dX8_many_102 : decode cX8_many 102 = .ok (.getfield 223, 3) := by decide +kernel
theorem dX8_many_105 : decode cX8_many 105 = .ok (.ireturn, 1) := by decide +kernel
theorem dX8_many_106 : decode cX8_many 106 = .ok (.aload_n 0, 1) := by decide +kernel
theorem dX8_many_107 : decode cX8_many 107 = .ok (.getfield 35, 3) := by decide +kernel
theorem dX8_many_110 : decode cX8_many 110 = .ok (.getfield 189, 3) := by decide +kernel
theorem dX8_many_113 : decode cX8_many 113 = .ok (.ireturn, 1) := by decide +kernel
theorem dX8_many_114 : decode cX8_many 114 = .ok (.aload_n 0, 1) := by decide +kernel
theorem dX8_many_115 : decode cX8_many 115 = .ok (.getfield 19, 3) := by decide +kernel
theorem dX8_many_118 : decode cX8_many 118 = .ok (.getfield 131, 3) := by decide +kernel
theorem dX8_many_121 : decode cX8_many 121 = .ok (.ireturn, 1) := by decide +kernel
theorem dX8_many_122 : decode cX8_many 122 = .ok (.aload_n 0, 1) := by decide +kernel
theorem dX8_many_123 : decode cX8_many 123 = .ok (.getfield 26, 3) := by decide +kernel
theorem dX8_many_126 : decode cX8_many 126 = .ok (.getfield 226, 3) := by decide +kernel
theorem dX8_many_129 : decode cX8_many 129 = .ok (.ldc 229, 2) := by decide +kernel
theorem dX8_many_131 : decode cX8_many 131 = .ok (.iand, 1) := by decide +kernel
theorem dX8_many_132 : decode cX8_many 132 = .ok (.ireturn, 1) := by decide +kernel
theorem dX8_many_133 : decode cX8_many 133 = .ok (.bipush (-2), 2) := by decide +kernel
theorem dX8_many_135 : decode cX8_many 135 = .ok (.ireturn, 1) := by decide +kernel
theorem dX8_isStation_0 : decode cX8_isStation 0 = .ok (.iload_n 0, 1) := by decide +kernel
theorem dX8_isStation_1 : decode cX8_isStation 1 = .ok (.ifCond .lt 13, 3) := by decide +kernel
theorem dX8_isStation_4 : decode cX8_isStation 4 = .ok (.iload_n 0, 1) := by decide +kernel
theorem dX8_isStation_5 : decode cX8_isStation 5 = .ok (.bipush 8, 2) := by decide +kernel
theorem dX8_isStation_7 : decode cX8_isStation 7 = .ok (.if_icmp .ge 7, 3) := by decide +kernel
theorem dX8_isStation_10 : decode cX8_isStation 10 = .ok (.iconst 1, 1) := by decide +kernel
theorem dX8_isStation_11 : decode cX8_isStation 11 = .ok (.goto 4, 3) := by decide +kernel
theorem dX8_isStation_14 : decode cX8_isStation 14 = .ok (.iconst 0, 1) := by decide +kernel
theorem dX8_isStation_15 : decode cX8_isStation 15 = .ok (.ireturn, 1) := by decide +kernel
