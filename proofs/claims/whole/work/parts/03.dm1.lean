theorem dX9_has_53 : decode cX9_has 53 = .ok (.iload_n 2, 1) := by decide +kernel
theorem dX9_has_54 : decode cX9_has 54 = .ok (.ishl, 1) := by decide +kernel
theorem dX9_has_55 : decode cX9_has 55 = .ok (.iconst (-1), 1) := by decide +kernel
theorem dX9_has_56 : decode cX9_has 56 = .ok (.ixor, 1) := by decide +kernel
theorem dX9_has_57 : decode cX9_has 57 = .ok (.iand, 1) := by decide +kernel
theorem dX9_has_58 : decode cX9_has 58 = .ok (.iload_n 3, 1) := by decide +kernel
theorem dX9_has_59 : decode cX9_has 59 = .ok (.iload_n 2, 1) := by decide +kernel
theorem dX9_has_60 : decode cX9_has 60 = .ok (.ishl, 1) := by decide +kernel
theorem dX9_has_61 : decode cX9_has 61 = .ok (.ior, 1) := by decide +kernel
theorem dX9_has_62 : decode cX9_has 62 = .ok (.iastore, 1) := by decide +kernel
theorem dX9_has_63 : decode cX9_has 63 = .ok (.iload_n 3, 1) := by decide +kernel
theorem dX9_has_64 : decode cX9_has 64 = .ok (.iconst 1, 1) := by decide +kernel
theorem dX9_has_65 : decode cX9_has 65 = .ok (.if_icmp .ne 10, 3) := by decide +kernel
theorem dX9_has_68 : decode cX9_has 68 = .ok (.aload_n 0, 1) := by decide +kernel
theorem dX9_has_69 : decode cX9_has 69 = .ok (.iload_n 2, 1) := by decide +kernel
theorem dX9_has_70 : decode cX9_has 70 = .ok (.iload_n 1, 1) := by decide +kernel
theorem dX9_has_71 : decode cX9_has 71 = .ok (.invokevirtual 86, 3) := by decide +kernel
theorem dX9_has_74 : decode cX9_has 74 = .ok (.pop, 1) := by decide +kernel
theorem dX9_has_75 : decode cX9_has 75 = .ok (.iload 4, 2) := by decide +kernel
theorem dX9_has_77 : decode cX9_has 77 = .ok (.ireturn, 1) := by decide +kernel
theorem dX9_isWanted_0 : decode cX9_isWanted 0 = .ok (.iconst 0, 1) := by decide +kernel
theorem dX9_isWanted_1 : decode cX9_isWanted 1 = .ok (.istore_n 3, 1) := by decide +kernel
theorem dX9_isWanted_2 : decode cX9_isWanted 2 = .ok (.iload_n 3, 1) := by decide +kernel
theorem dX9_isWanted_3 : decode cX9_isWanted 3 = .ok (.aload_n 0, 1) := by decide +kernel
theorem dX9_isWanted_4 : decode cX9_isWanted 4 = .ok (.getfield 79, 3) := by decide +kernel
theorem dX9_isWanted_7 : decode cX9_isWanted 7 = .ok (.if_icmp .ge 31, 3) := by decide +kernel
theorem dX9_isWanted_10 : decode cX9_isWanted 10 = .ok (.aload_n 0, 1) := by decide +kernel
theorem dX9_isWanted_11 : decode cX9_isWanted 11 = .ok (.getfield 16, 3) := by decide +kernel
theorem dX9_isWanted_14 : decode cX9_isWanted 14 = .ok (.iload_n 3, 1) := by decide +kernel
theorem dX9_isWanted_15 : decode cX9_isWanted 15 = .ok (.iaload, 1) := by decide +kernel
theorem dX9_isWanted_16 : decode cX9_isWanted 16 = .ok (.iload_n 1, 1) := by decide +kernel
theorem dX9_isWanted_17 : decode cX9_isWanted 17 = .ok (.if_icmp .ne 15, 3) := by decide +kernel
theorem dX9_isWanted_20 : decode cX9_isWanted 20 = .ok (.aload_n 0, 1) := by decide +kernel
theorem dX9_isWanted_21 : decode cX9_isWanted 21 = .ok (.getfield 19, 3) := by decide +kernel
theorem dX9_isWanted_24 : decode cX9_isWanted 24 = .ok (.iload_n 3, 1) := by decide +kernel
theorem dX9_isWanted_25 : decode cX9_isWanted 25 = .ok (.iaload, 1) := by decide +kernel
theorem dX9_isWanted_26 : decode cX9_isWanted 26 = .ok (.iload_n 2, 1) := by decide +kernel
theorem dX9_isWanted_27 : decode cX9_isWanted 27 = .ok (.if_icmp .ne 5, 3) := by decide +kernel
theorem dX9_isWanted_30 : decode cX9_isWanted 30 = .ok (.iconst 1, 1) := by decide +kernel
theorem dX9_isWanted_31 : decode cX9_isWanted 31 = .ok (.ireturn, 1) := by decide +kernel
theorem dX9_isWanted_32 : decode cX9_isWanted 32 = .ok (.iinc 3 1, 3) := by decide +kernel
theorem dX9_isWanted_35 : decode cX9_isWanted 35 = .ok (.goto (-33), 3) := by decide +kernel
theorem dX9_isWanted_38 : decode cX9_isWanted 38 = .ok (.iconst 0, 1) := by decide +kernel
theorem dX9_isWanted_39 : decode cX9_isWanted 39 = .ok (.ireturn, 1) := by decide +kernel
theorem dX9_want_0 : decode cX9_want 0 = .ok (.iload_n 2, 1) := by decide +kernel
theorem dX9_want_1 : decode cX9_want 1 = .ok (.invokestatic 90, 3) := by decide +kernel
theorem dX9_want_4 : decode cX9_want 4 = .ok (.ifCond .eq 11, 3) := by decide +kernel
theorem dX9_want_7 : decode cX9_want 7 = .ok (.aload_n 0, 1) := by decide +kernel
theorem dX9_want_8 : decode cX9_want 8 = .ok (.iload_n 1, 1) := by decide +kernel
theorem dX9_want_9 : decode cX9_want 9 = .ok (.invokevirtual 82, 3) := by decide +kernel
theorem dX9_want_12 : decode cX9_want 12 = .ok (.ifCond .ne 5, 3) := by decide +kernel
theorem dX9_want_15 : decode cX9_want 15 = .ok (.iconst (-1), 1) := by decide +kernel
theorem dX9_want_16 : decode cX9_want 16 = .ok (.ireturn, 1) := by decide +kernel
theorem dX9_want_17 : decode cX9_want 17 = .ok (.aload_n 0, 1) := by decide +kernel
theorem dX9_want_18 : decode cX9_want 18 = .ok (.getfield 13, 3) := by decide +kernel
theorem dX9_want_21 : decode cX9_want 21 = .ok (.iload_n 2, 1) := by decide +kernel
theorem dX9_want_22 : decode cX9_want 22 = .ok (.iaload, 1) := by decide +kernel
theorem dX9_want_23 : decode cX9_want 23 = .ok (.iload_n 1, 1) := by decide +kernel
theorem dX9_want_24 : decode cX9_want 24 = .ok (.invokestatic 75, 3) := by decide +kernel
theorem dX9_want_27 : decode cX9_want 27 = .ok (.ifCond .ne 12, 3) := by decide +kernel
theorem dX9_want_30 : decode cX9_want 30 = .ok (.aload_n 0, 1) := by decide +kernel
theorem dX9_want_31 : decode cX9_want 31 = .ok (.iload_n 1, 1) := by decide +kernel
theorem dX9_want_32 : decode cX9_want 32 = .ok (.iload_n 2, 1) := by decide +kernel
theorem dX9_want_33 : decode cX9_want 33 = .ok (.invokevirtual 93, 3) := by decide +kernel
theorem dX9_want_36 : decode cX9_want 36 = .ok (.ifCond .eq 6, 3) := by decide +kernel
theorem dX9_want_39 : decode cX9_want 39 = .ok (.bipush (-3), 2) := by decide +kernel
theorem dX9_want_41 : decode cX9_want 41 = .ok (.ireturn, 1) := by decide +kernel
theorem dX9_want_42 : decode cX9_want 42 = .ok (.aload_n 0, 1) := by decide +kernel
theorem dX9_want_43 : decode cX9_want 43 = .ok (.getfield 79, 3) := by decide +kernel
theorem dX9_want_46 : decode cX9_want 46 = .ok (.bipush 16, 2) := by decide +kernel
theorem dX9_want_48 : decode cX9_want 48 = .ok (.if_icmp .ne 6, 3) := by decide +kernel
theorem dX9_want_51 : decode cX9_want 51 = .ok (.bipush (-4), 2) := by decide +kernel
theorem dX9_want_53 : decode cX9_want 53 = .ok (.ireturn, 1) := by decide +kernel
theorem dX9_want_54 : decode cX9_want 54 = .ok (.aload_n 0, 1) := by decide +kernel
theorem dX9_want_55 : decode cX9_want 55 = .ok (.getfield 16, 3) := by decide +kernel
theorem dX9_want_58 : decode cX9_want 58 = .ok (.aload_n 0, 1) := by decide +kernel
theorem dX9_want_59 : decode cX9_want 59 = .ok (.getfield 79, 3) := by decide +kernel
theorem dX9_want_62 : decode cX9_want 62 = .ok (.iload_n 1, 1) := by decide +kernel
theorem dX9_want_63 : decode cX9_want 63 = .ok (.iastore, 1) := by decide +kernel
theorem dX9_want_64 : decode cX9_want 64 = .ok (.aload_n 0, 1) := by decide +kernel
theorem dX9_want_65 : decode cX9_want 65 = .ok (.getfield 19, 3) := by decide +kernel
theorem dX9_want_68 : decode cX9_want 68 = .ok (.aload_n 0, 1) := by decide +kernel
theorem dX9_want_69 : decode cX9_want 69 = .ok (.getfield 79, 3) := by decide +kernel
theorem dX9_want_72 : decode cX9_want 72 = .ok (.iload_n 2, 1) := by decide +kernel
theorem dX9_want_73 : decode cX9_want 73 = .ok (.iastore, 1) := by decide +kernel
theorem dX9_want_74 : decode cX9_want 74 = .ok (.aload_n 0, 1) := by decide +kernel
theorem dX9_want_75 : decode cX9_want 75 = .ok (.dup, 1) := by decide +kernel
theorem dX9_want_76 : decode cX9_want 76 = .ok (.getfield 79, 3) := by decide +kernel
theorem dX9_want_79 : decode cX9_want 79 = .ok (.iconst 1, 1) := by decide +kernel
theorem dX9_want_80 : decode cX9_want 80 = .ok (.iadd, 1) := by decide +kernel
theorem dX9_want_81 : decode cX9_want 81 = .ok (.putfield 79, 3) := by decide +kernel
theorem dX9_want_84 : decode cX9_want 84 = .ok (.aload_n 0, 1) := by decide +kernel
theorem dX9_want_85 : decode cX9_want 85 = .ok (.getfield 79, 3) := by decide +kernel
theorem dX9_want_88 : decode cX9_want 88 = .ok (.ireturn, 1) := by decide +kernel
theorem dX9_air_0 : decode cX9_air 0 = .ok (.iload_n 1, 1) := by decide +kernel
theorem dX9_air_1 : decode cX9_air 1 = .ok (.iconst 0, 1) := by decide +kernel
theorem dX9_air_2 : decode cX9_air 2 = .ok (.sipush 255, 3) := by decide +kernel
theorem dX9_air_5 : decode cX9_air 5 = .ok (.invokestatic 68, 3) := by decide +kernel
theorem dX9_air_8 : decode cX9_air 8 = .ok (.ifCond .ne 6, 3) := by decide +kernel
theorem dX9_air_11 : decode cX9_air 11 = .ok (.bipush (-2), 2) := by decide +kernel
theorem dX9_air_13 : decode cX9_air 13 = .ok (.ireturn, 1) := by decide +kernel
theorem dX9_air_14 : decode cX9_air 14 = .ok (.aload_n 0, 1) := by decide +kernel
theorem dX9_air_15 : decode cX9_air 15 = .ok (.getfield 22, 3) := by decide +kernel
theorem dX9_air_18 : decode cX9_air 18 = .ok (.istore_n 2, 1) := by decide +kernel
theorem dX9_air_19 : decode cX9_air 19 = .ok (.aload_n 0, 1) := by decide +kernel
theorem dX9_air_20 : decode cX9_air 20 = .ok (.iload_n 1, 1) := by decide +kernel
theorem dX9_air_21 : decode cX9_air 21 = .ok (.putfield 22, 3) := by decide +kernel
theorem dX9_air_24 : decode cX9_air 24 = .ok (.iload_n 2, 1) := by decide +kernel
theorem dX9_air_25 : decode cX9_air 25 = .ok (.ireturn, 1) := by decide +kernel
theorem dX9_most_0 : decode cX9_most 0 = .ok (.iload_n 1, 1) := by decide +kernel
theorem dX9_most_1 : decode cX9_most 1 = .ok (.iconst 1, 1) := by decide +kernel
theorem dX9_most_2 : decode cX9_most 2 = .ok (.bipush 10, 2) := by decide +kernel
theorem dX9_most_4 : decode cX9_most 4 = .ok (.invokestatic 68, 3) := by decide +kernel
theorem dX9_most_7 : decode cX9_most 7 = .ok (.ifCond .ne 6, 3) := by decide +kernel
theorem dX9_most_10 : decode cX9_most 10 = .ok (.bipush (-2), 2) := by decide +kernel
theorem dX9_most_12 : decode cX9_most 12 = .ok (.ireturn, 1) := by decide +kernel
theorem dX9_most_13 : decode cX9_most 13 = .ok (.aload_n 0, 1) := by decide +kernel
theorem dX9_most_14 : decode cX9_most 14 = .ok (.getfield 26, 3) := by decide +kernel
theorem dX9_most_17 : decode cX9_most 17 = .ok (.istore_n 2, 1) := by decide +kernel
theorem dX9_most_18 : decode cX9_most 18 = .ok (.aload_n 0, 1) := by decide +kernel
theorem dX9_most_19 : decode cX9_most 19 = .ok (.iload_n 1, 1) := by decide +kernel
theorem dX9_most_20 : decode cX9_most 20 = .ok (.putfield 26, 3) := by decide +kernel
theorem dX9_most_23 : decode cX9_most 23 = .ok (.iload_n 2, 1) := by decide +kernel
theorem dX9_most_24 : decode cX9_most 24 = .ok (.ireturn, 1) := by decide +kernel
theorem dX9_anew_0 : decode cX9_anew 0 = .ok (.aload_n 0, 1) := by decide +kernel
theorem dX9_anew_1 : decode cX9_anew 1 = .ok (.getfield 79, 3) := by decide +kernel
theorem dX9_anew_4 : decode cX9_anew 4 = .ok (.istore_n 1, 1) := by decide +kernel
theorem dX9_anew_5 : decode cX9_anew 5 = .ok (.aload_n 0, 1) := by decide +kernel
theorem dX9_anew_6 : decode cX9_anew 6 = .ok (.iconst 0, 1) := by decide +kernel
theorem dX9_anew_7 : decode cX9_anew 7 = .ok (.putfield 72, 3) := by decide +kernel
theorem dX9_anew_10 : decode cX9_anew 10 = .ok (.iconst 0, 1) := by decide +kernel
theorem dX9_anew_11 : decode cX9_anew 11 = .ok (.istore_n 2, 1) := by decide +kernel
theorem dX9_anew_12 : decode cX9_anew 12 = .ok (.iload_n 2, 1) := by decide +kernel
theorem dX9_anew_13 : decode cX9_anew 13 = .ok (.bipush 8, 2) := by decide +kernel
theorem dX9_anew_15 : decode cX9_anew 15 = .ok (.if_icmp .ge 16, 3) := by decide +kernel
theorem dX9_anew_18 : decode cX9_anew 18 = .ok (.aload_n 0, 1) := by decide +kernel
theorem dX9_anew_19 : decode cX9_anew 19 = .ok (.getfield 13, 3) := by decide +kernel
theorem dX9_anew_22 : decode cX9_anew 22 = .ok (.iload_n 2, 1) := by decide +kernel
theorem dX9_anew_23 : decode cX9_anew 23 = .ok (.iconst 0, 1) := by decide +kernel
theorem dX9_anew_24 : decode cX9_anew 24 = .ok (.iastore, 1) := by decide +kernel
theorem dX9_anew_25 : decode cX9_anew 25 = .ok (.iinc 2 1, 3) := by decide +kernel
theorem dX9_anew_28 : decode cX9_anew 28 = .ok (.goto (-16), 3) := by decide +kernel
theorem dX9_anew_31 : decode cX9_anew 31 = .ok (.aload_n 0, 1) := by decide +kernel
theorem dX9_anew_32 : decode cX9_anew 32 = .ok (.iconst 0, 1) := by decide +kernel
theorem dX9_anew_33 : decode cX9_anew 33 = .ok (.putfield 79, 3) := by decide +kernel
theorem dX9_anew_36 : decode cX9_anew 36 = .ok (.aload_n 0, 1) := by decide +kernel
theorem dX9_anew_37 : decode cX9_anew 37 = .ok (.iconst 0, 1) := by decide +kernel
theorem dX9_anew_38 : decode cX9_anew 38 = .ok (.putfield 96, 3) := by decide +kernel
theorem dX9_anew_41 : decode cX9_anew 41 = .ok (.aload_n 0, 1) := by decide +kernel
theorem dX9_anew_42 : decode cX9_anew 42 = .ok (.iconst 0, 1) := by decide +kernel
theorem dX9_anew_43 : decode cX9_anew 43 = .ok (.putfield 99, 3) := by decide +kernel
theorem dX9_anew_46 : decode cX9_anew 46 = .ok (.iload_n 1, 1) := by decide +kernel
theorem dX9_anew_47 : decode cX9_anew 47 = .ok (.ireturn, 1) := by decide +kernel
theorem dX9_entry_0 : decode cX9_entry 0 = .ok (.iload_n 1, 1) := by decide +kernel
theorem dX9_entry_1 : decode cX9_entry 1 = .ok (.iconst 0, 1) := by decide +kernel
theorem dX9_entry_2 : decode cX9_entry 2 = .ok (.aload_n 0, 1) := by decide +kernel
theorem dX9_entry_3 : decode cX9_entry 3 = .ok (.getfield 79, 3) := by decide +kernel
theorem dX9_entry_6 : decode cX9_entry 6 = .ok (.iconst 1, 1) := by decide +kernel
theorem dX9_entry_7 : decode cX9_entry 7 = .ok (.isub, 1) := by decide +kernel
theorem dX9_entry_8 : decode cX9_entry 8 = .ok (.invokestatic 68, 3) := by decide +kernel
theorem dX9_entry_11 : decode cX9_entry 11 = .ok (.ifCond .ne 5, 3) := by decide +kernel
theorem dX9_entry_14 : decode cX9_entry 14 = .ok (.iconst (-1), 1) := by decide +kernel
theorem dX9_entry_15 : decode cX9_entry 15 = .ok (.ireturn, 1) := by decide +kernel
theorem dX9_entry_16 : decode cX9_entry 16 = .ok (.iload_n 2, 1) := by decide +kernel
theorem dX9_entry_17 : decode cX9_entry 17 = .ok (.ifCond .ne 12, 3) := by decide +kernel
theorem dX9_entry_20 : decode cX9_entry 20 = .ok (.aload_n 0, 1) := by decide +kernel
theorem dX9_entry_21 : decode cX9_entry 21 = .ok (.getfield 16, 3) := by decide +kernel
theorem dX9_entry_24 : decode cX9_entry 24 = .ok (.iload_n 1, 1) := by decide +kernel
theorem dX9_entry_25 : decode cX9_entry 25 = .ok (.iaload, 1) := by decide +kernel
theorem dX9_entry_26 : decode cX9_entry 26 = .ok (.goto 19, 3) := by decide +kernel
theorem dX9_entry_29 : decode cX9_entry 29 = .ok (.iload_n 2, 1) := by decide +kernel
theorem dX9_entry_30 : decode cX9_entry 30 = .ok (.iconst 1, 1) := by decide +kernel
theorem dX9_entry_31 : decode cX9_entry 31 = .ok (.if_icmp .ne 12, 3) := by decide +kernel
theorem dX9_entry_34 : decode cX9_entry 34 = .ok (.aload_n 0, 1) := by decide +kernel
theorem dX9_entry_35 : decode cX9_entry 35 = .ok (.getfield 19, 3) := by decide +kernel
theorem dX9_entry_38 : decode cX9_entry 38 = .ok (.iload_n 1, 1) := by decide +kernel
theorem dX9_entry_39 : decode cX9_entry 39 = .ok (.iaload, 1) := by decide +kernel
theorem dX9_entry_40 : decode cX9_entry 40 = .ok (.goto 5, 3) := by decide +kernel
theorem dX9_entry_43 : decode cX9_entry 43 = .ok (.bipush (-2), 2) := by decide +kernel
theorem dX9_entry_45 : decode cX9_entry 45 = .ok (.ireturn, 1) := by decide +kernel
theorem dX9_having_0 : decode cX9_having 0 = .ok (.iload_n 1, 1) := by decide +kernel
theorem dX9_having_1 : decode cX9_having 1 = .ok (.invokestatic 90, 3) := by decide +kernel
theorem dX9_having_4 : decode cX9_having 4 = .ok (.ifCond .eq 12, 3) := by decide +kernel
theorem dX9_having_7 : decode cX9_having 7 = .ok (.aload_n 0, 1) := by decide +kernel
theorem dX9_having_8 : decode cX9_having 8 = .ok (.getfield 13, 3) := by decide +kernel
theorem dX9_having_11 : decode cX9_having 11 = .ok (.iload_n 1, 1) := by decide +kernel
theorem dX9_having_12 : decode cX9_having 12 = .ok (.iaload, 1) := by decide +kernel
theorem dX9_having_13 : decode cX9_having 13 = .ok (.goto 4, 3) := by decide +kernel
theorem dX9_having_16 : decode cX9_having 16 = .ok (.iconst (-1), 1) := by decide +kernel
theorem dX9_having_17 : decode cX9_having 17 = .ok (.ireturn, 1) := by decide +kernel
theorem dX9_isSum_0 : decode cX9_isSum 0 = .ok (.iload_n 1, 1) := by decide +kernel
theorem dX9_isSum_1 : decode cX9_isSum 1 = .ok (.iconst 1, 1) := by decide +kernel
theorem dX9_isSum_2 : decode cX9_isSum 2 = .ok (.sipush 1023, 3) := by decide +kernel
theorem dX9_isSum_5 : decode cX9_isSum 5 = .ok (.invokestatic 68, 3) := by decide +kernel
theorem dX9_isSum_8 : decode cX9_isSum 8 = .ok (.ifCond .eq 18, 3) := by decide +kernel
theorem dX9_isSum_11 : decode cX9_isSum 11 = .ok (.iload_n 1, 1) := by decide +kernel
theorem dX9_isSum_12 : decode cX9_isSum 12 = .ok (.aload_n 0, 1) := by decide +kernel
theorem dX9_isSum_13 : decode cX9_isSum 13 = .ok (.getfield 72, 3) := by decide +kernel
theorem dX9_isSum_16 : decode cX9_isSum 16 = .ok (.iconst (-1), 1) := by decide +kernel
theorem dX9_isSum_17 : decode cX9_isSum 17 = .ok (.ixor, 1) := by decide +kernel
theorem dX9_isSum_18 : decode cX9_isSum 18 = .ok (.iand, 1) := by decide +kernel
theorem dX9_isSum_19 : decode cX9_isSum 19 = .ok (.ifCond .ne 7, 3) := by decide +kernel
theorem dX9_isSum_22 : decode cX9_isSum 22 = .ok (.iconst 1, 1) := by decide +kernel
theorem dX9_isSum_23 : decode cX9_isSum 23 = .ok (.goto 4, 3) := by decide +kernel
theorem dX9_isSum_26 : decode cX9_isSum 26 = .ok (.iconst 0, 1) := by decide +kernel
theorem dX9_isSum_27 : decode cX9_isSum 27 = .ok (.ireturn, 1) := by decide +kernel
theorem dX9_readBy_0 : decode cX9_readBy 0 = .ok (.iload_n 2, 1) := by decide +kernel
theorem dX9_readBy_1 : decode cX9_readBy 1 = .ok (.aload_n 0, 1) := by decide +kernel
theorem dX9_readBy_2 : decode cX9_readBy 2 = .ok (.getfield 13, 3) := by decide +kernel
theorem dX9_readBy_5 : decode cX9_readBy 5 = .ok (.iload_n 1, 1) := by decide +kernel
theorem dX9_readBy_6 : decode cX9_readBy 6 = .ok (.iaload, 1) := by decide +kernel
theorem dX9_readBy_7 : decode cX9_readBy 7 = .ok (.iconst (-1), 1) := by decide +kernel
theorem dX9_readBy_8 : decode cX9_readBy 8 = .ok (.ixor, 1) := by decide +kernel
theorem dX9_readBy_9 : decode cX9_readBy 9 = .ok (.iand, 1) := by decide +kernel
theorem dX9_readBy_10 : decode cX9_readBy 10 = .ok (.istore_n 3, 1) := by decide +kernel
theorem dX9_readBy_11 : decode cX9_readBy 11 = .ok (.iload_n 3, 1) := by decide +kernel
theorem dX9_readBy_12 : decode cX9_readBy 12 = .ok (.invokestatic 102, 3) := by decide +kernel
theorem dX9_readBy_15 : decode cX9_readBy 15 = .ok (.iconst 1, 1) := by decide +kernel
theorem dX9_readBy_16 : decode cX9_readBy 16 = .ok (.if_icmp .eq 6, 3) := by decide +kernel
theorem dX9_readBy_19 : decode cX9_readBy 19 = .ok (.bipush (-9), 2) := by decide +kernel
theorem dX9_readBy_21 : decode cX9_readBy 21 = .ok (.ireturn, 1) := by decide +kernel
theorem dX9_readBy_22 : decode cX9_readBy 22 = .ok (.iconst 0, 1) := by decide +kernel
theorem dX9_readBy_23 : decode cX9_readBy 23 = .ok (.istore 4, 2) := by decide +kernel
theorem dX9_readBy_25 : decode cX9_readBy 25 = .ok (.iload_n 3, 1) := by decide +kernel
theorem dX9_readBy_26 : decode cX9_readBy 26 = .ok (.iload 4, 2) := by decide +kernel
theorem dX9_readBy_28 : decode cX9_readBy 28 = .ok (.invokestatic 75, 3) := by decide +kernel
theorem dX9_readBy_31 : decode cX9_readBy 31 = .ok (.ifCond .ne 9, 3) := by decide +kernel
theorem dX9_readBy_34 : decode cX9_readBy 34 = .ok (.iinc 4 1, 3) := by decide +kernel
theorem dX9_readBy_37 : decode cX9_readBy 37 = .ok (.goto (-12), 3) := by decide +kernel
theorem dX9_readBy_40 : decode cX9_readBy 40 = .ok (.iload 4, 2) := by decide +kernel
theorem dX9_readBy_42 : decode cX9_readBy 42 = .ok (.ireturn, 1) := by decide +kernel
theorem dX9_reads_0 : decode cX9_reads 0 = .ok (.iload_n 1, 1) := by decide +kernel
theorem dX9_reads_1 : decode cX9_reads 1 = .ok (.invokestatic 90, 3) := by decide +kernel
theorem dX9_reads_4 : decode cX9_reads 4 = .ok (.ifCond .ne 5, 3) := by decide +kernel
theorem dX9_reads_7 : decode cX9_reads 7 = .ok (.iconst (-1), 1) := by decide +kernel
theorem dX9_reads_8 : decode cX9_reads 8 = .ok (.ireturn, 1) := by decide +kernel
theorem dX9_reads_9 : decode cX9_reads 9 = .ok (.aload_n 0, 1) := by decide +kernel
theorem dX9_reads_10 : decode cX9_reads 10 = .ok (.iload_n 2, 1) := by decide +kernel
theorem dX9_reads_11 : decode cX9_reads 11 = .ok (.invokevirtual 106, 3) := by decide +kernel
theorem dX9_reads_14 : decode cX9_reads 14 = .ok (.ifCond .eq 12, 3) := by decide +kernel
theorem dX9_reads_17 : decode cX9_reads 17 = .ok (.aload_n 0, 1) := by decide +kernel
theorem dX9_reads_18 : decode cX9_reads 18 = .ok (.iload_n 1, 1) := by decide +kernel
theorem dX9_reads_19 : decode cX9_reads 19 = .ok (.iload_n 2, 1) := by decide +kernel
theorem dX9_reads_20 : decode cX9_reads 20 = .ok (.invokevirtual 109, 3) := by decide +kernel
theorem dX9_reads_23 : decode cX9_reads 23 = .ok (.goto 5, 3) := by decide +kernel
theorem dX9_reads_26 : decode cX9_reads 26 = .ok (.bipush (-2), 2) := by decide +kernel
theorem dX9_reads_28 : decode cX9_reads 28 = .ok (.ireturn, 1) := by decide +kernel
theorem dX9_bodyBy_0 : decode cX9_bodyBy 0 = .ok (.iconst 0, 1) := by decide +kernel
theorem dX9_bodyBy_1 : decode cX9_bodyBy 1 = .ok (.istore_n 2, 1) := by decide +kernel
theorem dX9_bodyBy_2 : decode cX9_bodyBy 2 = .ok (.iconst 0, 1) := by decide +kernel
theorem dX9_bodyBy_3 : decode cX9_bodyBy 3 = .ok (.istore_n 3, 1) := by decide +kernel
theorem dX9_bodyBy_4 : decode cX9_bodyBy 4 = .ok (.iload_n 3, 1) := by decide +kernel
theorem dX9_bodyBy_5 : decode cX9_bodyBy 5 = .ok (.bipush 10, 2) := by decide +kernel
theorem dX9_bodyBy_7 : decode cX9_bodyBy 7 = .ok (.if_icmp .ge 30, 3) := by decide +kernel
theorem dX9_bodyBy_10 : decode cX9_bodyBy 10 = .ok (.iload_n 2, 1) := by decide +kernel
theorem dX9_bodyBy_11 : decode cX9_bodyBy 11 = .ok (.iload_n 1, 1) := by decide +kernel
theorem dX9_bodyBy_12 : decode cX9_bodyBy 12 = .ok (.iload_n 3, 1) := by decide +kernel
theorem dX9_bodyBy_13 : decode cX9_bodyBy 13 = .ok (.invokestatic 75, 3) := by decide +kernel
theorem dX9_bodyBy_16 : decode cX9_bodyBy 16 = .ok (.ifCond .eq 12, 3) := by decide +kernel
theorem dX9_bodyBy_19 : decode cX9_bodyBy 19 = .ok (.aload_n 0, 1) := by decide +kernel
theorem dX9_bodyBy_20 : decode cX9_bodyBy 20 = .ok (.getfield 7, 3) := by decide +kernel
theorem dX9_bodyBy_23 : decode cX9_bodyBy 23 = .ok (.iload_n 3, 1) := by decide +kernel
theorem dX9_bodyBy_24 : decode cX9_bodyBy 24 = .ok (.iaload, 1) := by decide +kernel
theorem dX9_bodyBy_25 : decode cX9_bodyBy 25 = .ok (.goto 4, 3) := by decide +kernel
theorem dX9_bodyBy_28 : decode cX9_bodyBy 28 = .ok (.iconst 0, 1) := by decide +kernel
theorem dX9_bodyBy_29 : decode cX9_bodyBy 29 = .ok (.ixor, 1) := by decide +kernel
theorem dX9_bodyBy_30 : decode cX9_bodyBy 30 = .ok (.istore_n 2, 1) := by decide +kernel
theorem dX9_bodyBy_31 : decode cX9_bodyBy 31 = .ok (.iinc 3 1, 3) := by decide +kernel
theorem dX9_bodyBy_34 : decode cX9_bodyBy 34 = .ok (.goto (-30), 3) := by decide +kernel
theorem dX9_bodyBy_37 : decode cX9_bodyBy 37 = .ok (.iload_n 2, 1) := by decide +kernel
theorem dX9_bodyBy_38 : decode cX9_bodyBy 38 = .ok (.ireturn, 1) := by decide +kernel
theorem dX9_serves_0 : decode cX9_serves 0 = .ok (.aload_n 0, 1) := by decide +kernel
theorem dX9_serves_1 : decode cX9_serves 1 = .ok (.getfield 19, 3) := by decide +kernel
theorem dX9_serves_4 : decode cX9_serves 4 = .ok (.iload_n 2, 1) := by decide +kernel
theorem dX9_serves_5 : decode cX9_serves 5 = .ok (.iaload, 1) := by decide +kernel
theorem dX9_serves_6 : decode cX9_serves 6 = .ok (.istore_n 3, 1) := by decide +kernel
theorem dX9_serves_7 : decode cX9_serves 7 = .ok (.aload_n 0, 1) := by decide +kernel
theorem dX9_serves_8 : decode cX9_serves 8 = .ok (.getfield 22, 3) := by decide +kernel
theorem dX9_serves_11 : decode cX9_serves 11 = .ok (.iload_n 3, 1) := by decide +kernel
theorem dX9_serves_12 : decode cX9_serves 12 = .ok (.invokestatic 75, 3) := by decide +kernel
theorem dX9_serves_15 : decode cX9_serves 15 = .ok (.ifCond .eq 22, 3) := by decide +kernel
theorem dX9_serves_18 : decode cX9_serves 18 = .ok (.aload_n 0, 1) := by decide +kernel
theorem dX9_serves_19 : decode cX9_serves 19 = .ok (.iload_n 3, 1) := by decide +kernel
theorem dX9_serves_20 : decode cX9_serves 20 = .ok (.iload_n 1, 1) := by decide +kernel
theorem dX9_serves_21 : decode cX9_serves 21 = .ok (.invokevirtual 109, 3) := by decide +kernel
theorem dX9_serves_24 : decode cX9_serves 24 = .ok (.aload_n 0, 1) := by decide +kernel
theorem dX9_serves_25 : decode cX9_serves 25 = .ok (.getfield 16, 3) := by decide +kernel
theorem dX9_serves_28 : decode cX9_serves 28 = .ok (.iload_n 2, 1) := by decide +kernel
theorem dX9_serves_29 : decode cX9_serves 29 = .ok (.iaload, 1) := by decide +kernel
theorem dX9_serves_30 : decode cX9_serves 30 = .ok (.if_icmp .ne 7, 3) := by decide +kernel
theorem dX9_serves_33 : decode cX9_serves 33 = .ok (.iconst 1, 1) := by decide +kernel
theorem dX9_serves_34 : decode cX9_serves 34 = .ok (.goto 4, 3) := by decide +kernel
theorem dX9_serves_37 : decode cX9_serves 37 = .ok (.iconst 0, 1) := by decide +kernel
theorem dX9_serves_38 : decode cX9_serves 38 = .ok (.ireturn, 1) := by decide +kernel
theorem dX9_manyServed_0 : decode cX9_manyServed 0 = .ok (.iconst 0, 1) := by decide +kernel
theorem dX9_manyServed_1 : decode cX9_manyServed 1 = .ok (.istore_n 2, 1) := by decide +kernel
theorem dX9_manyServed_2 : decode cX9_manyServed 2 = .ok (.iconst 0, 1) := by decide +kernel
theorem dX9_manyServed_3 : decode cX9_manyServed 3 = .ok (.istore_n 3, 1) := by decide +kernel
theorem dX9_manyServed_4 : decode cX9_manyServed 4 = .ok (.iload_n 3, 1) := by decide +kernel
theorem dX9_manyServed_5 : decode cX9_manyServed 5 = .ok (.aload_n 0, 1) := by decide +kernel
theorem dX9_manyServed_6 : decode cX9_manyServed 6 = .ok (.getfield 79, 3) := by decide +kernel
theorem dX9_manyServed_9 : decode cX9_manyServed 9 = .ok (.if_icmp .ge 26, 3) := by decide +kernel
theorem dX9_manyServed_12 : decode cX9_manyServed 12 = .ok (.iload_n 2, 1) := by decide +kernel
theorem dX9_manyServed_13 : decode cX9_manyServed 13 = .ok (.aload_n 0, 1) := by decide +kernel
theorem dX9_manyServed_14 : decode cX9_manyServed 14 = .ok (.iload_n 1, 1) := by decide +kernel
theorem dX9_manyServed_15 : decode cX9_manyServed 15 = .ok (.iload_n 3, 1) := by decide +kernel
theorem dX9_manyServed_16 : decode cX9_manyServed 16 = .ok (.invokevirtual 112, 3) := by decide +kernel
theorem dX9_manyServed_19 : decode cX9_manyServed 19 = .ok (.ifCond .eq 7, 3) := by decide +kernel
theorem dX9_manyServed_22 : decode cX9_manyServed 22 = .ok (.iconst 1, 1) := by decide +kernel
theorem dX9_manyServed_23 : decode cX9_manyServed 23 = .ok (.goto 4, 3) := by decide +kernel
theorem dX9_manyServed_26 : decode cX9_manyServed 26 = .ok (.iconst 0, 1) := by decide +kernel
theorem dX9_manyServed_27 : decode cX9_manyServed 27 = .ok (.iadd, 1) := by decide +kernel
theorem dX9_manyServed_28 : decode cX9_manyServed 28 = .ok (.istore_n 2, 1) := by decide +kernel
theorem dX9_manyServed_29 : decode cX9_manyServed 29 = .ok (.iinc 3 1, 3) := by decide +kernel
theorem dX9_manyServed_32 : decode cX9_manyServed 32 = .ok (.goto (-28), 3) := by decide +kernel
theorem dX9_manyServed_35 : decode cX9_manyServed 35 = .ok (.iload_n 2, 1) := by decide +kernel
theorem dX9_manyServed_36 : decode cX9_manyServed 36 = .ok (.ireturn, 1) := by decide +kernel
theorem dX9_openers_0 : decode cX9_openers 0 = .ok (.iconst 0, 1) := by decide +kernel
theorem dX9_openers_1 : decode cX9_openers 1 = .ok (.istore_n 2, 1) := by decide +kernel
theorem dX9_openers_2 : decode cX9_openers 2 = .ok (.iconst 0, 1) := by decide +kernel
theorem dX9_openers_3 : decode cX9_openers 3 = .ok (.istore_n 3, 1) := by decide +kernel
theorem dX9_openers_4 : decode cX9_openers 4 = .ok (.iload_n 3, 1) := by decide +kernel
theorem dX9_openers_5 : decode cX9_openers 5 = .ok (.bipush 8, 2) := by decide +kernel
theorem dX9_openers_7 : decode cX9_openers 7 = .ok (.if_icmp .ge 41, 3) := by decide +kernel
theorem dX9_openers_10 : decode cX9_openers 10 = .ok (.iload_n 2, 1) := by decide +kernel
theorem dX9_openers_11 : decode cX9_openers 11 = .ok (.aload_n 0, 1) := by decide +kernel
theorem dX9_openers_12 : decode cX9_openers 12 = .ok (.getfield 22, 3) := by decide +kernel
theorem dX9_openers_15 : decode cX9_openers 15 = .ok (.iload_n 3, 1) := by decide +kernel
theorem dX9_openers_16 : decode cX9_openers 16 = .ok (.invokestatic 75, 3) := by decide +kernel
theorem dX9_openers_19 : decode cX9_openers 19 = .ok (.ifCond .eq 20, 3) := by decide +kernel
theorem dX9_openers_22 : decode cX9_openers 22 = .ok (.aload_n 0, 1) := by decide +kernel
theorem dX9_openers_23 : decode cX9_openers 23 = .ok (.iload_n 3, 1) := by decide +kernel
theorem dX9_openers_24 : decode cX9_openers 24 = .ok (.iload_n 1, 1) := by decide +kernel
theorem dX9_openers_25 : decode cX9_openers 25 = .ok (.invokevirtual 109, 3) := by decide +kernel
theorem dX9_openers_28 : decode cX9_openers 28 = .ok (.bipush (-9), 2) := by decide +kernel
theorem dX9_openers_30 : decode cX9_openers 30 = .ok (.if_icmp .eq 9, 3) := by decide +kernel
theorem dX9_openers_33 : decode cX9_openers 33 = .ok (.iconst 1, 1) := by decide +kernel
theorem dX9_openers_34 : decode cX9_openers 34 = .ok (.iload_n 3, 1) := by decide +kernel
theorem dX9_openers_35 : decode cX9_openers 35 = .ok (.ishl, 1) := by decide +kernel
theorem dX9_openers_36 : decode cX9_openers 36 = .ok (.goto 4, 3) := by decide +kernel
theorem dX9_openers_39 : decode cX9_openers 39 = .ok (.iconst 0, 1) := by decide +kernel
theorem dX9_openers_40 : decode cX9_openers 40 = .ok (.ior, 1) := by decide +kernel
theorem dX9_openers_41 : decode cX9_openers 41 = .ok (.istore_n 2, 1) := by decide +kernel
theorem dX9_openers_42 : decode cX9_openers 42 = .ok (.iinc 3 1, 3) := by decide +kernel
theorem dX9_openers_45 : decode cX9_openers 45 = .ok (.goto (-41), 3) := by decide +kernel
theorem dX9_openers_48 : decode cX9_openers 48 = .ok (.iload_n 2, 1) := by decide +kernel
theorem dX9_openers_49 : decode cX9_openers 49 = .ok (.ireturn, 1) := by decide +kernel
theorem dX9_sum_0 : decode cX9_sum 0 = .ok (.aload_n 0, 1) := by decide +kernel
theorem dX9_sum_1 : decode cX9_sum 1 = .ok (.iload_n 1, 1) := by decide +kernel
theorem dX9_sum_2 : decode cX9_sum 2 = .ok (.invokevirtual 106, 3) := by decide +kernel
theorem dX9_sum_5 : decode cX9_sum 5 = .ok (.ifCond .ne 6, 3) := by decide +kernel
theorem dX9_sum_8 : decode cX9_sum 8 = .ok (.bipush (-2), 2) := by decide +kernel
theorem dX9_sum_10 : decode cX9_sum 10 = .ok (.ireturn, 1) := by decide +kernel
theorem dX9_sum_11 : decode cX9_sum 11 = .ok (.iload_n 2, 1) := by decide +kernel
theorem dX9_sum_12 : decode cX9_sum 12 = .ok (.ifCond .ne 11, 3) := by decide +kernel
theorem dX9_sum_15 : decode cX9_sum 15 = .ok (.aload_n 0, 1) := by decide +kernel
theorem dX9_sum_16 : decode cX9_sum 16 = .ok (.iload_n 1, 1) := by decide +kernel
theorem dX9_sum_17 : decode cX9_sum 17 = .ok (.invokevirtual 115, 3) := by decide +kernel
theorem dX9_sum_20 : decode cX9_sum 20 = .ok (.goto 31, 3) := by decide +kernel
theorem dX9_sum_23 : decode cX9_sum 23 = .ok (.iload_n 2, 1) := by decide +kernel
theorem dX9_sum_24 : decode cX9_sum 24 = .ok (.iconst 1, 1) := by decide +kernel
theorem dX9_sum_25 : decode cX9_sum 25 = .ok (.if_icmp .ne 11, 3) := by decide +kernel
theorem dX9_sum_28 : decode cX9_sum 28 = .ok (.aload_n 0, 1) := by decide +kernel
theorem dX9_sum_29 : decode cX9_sum 29 = .ok (.iload_n 1, 1) := by decide +kernel
theorem dX9_sum_30 : decode cX9_sum 30 = .ok (.invokevirtual 118, 3) := by decide +kernel
theorem dX9_sum_33 : decode cX9_sum 33 = .ok (.goto 18, 3) := by decide +kernel
theorem dX9_sum_36 : decode cX9_sum 36 = .ok (.iload_n 2, 1) := by decide +kernel
theorem dX9_sum_37 : decode cX9_sum 37 = .ok (.iconst 2, 1) := by decide +kernel
theorem dX9_sum_38 : decode cX9_sum 38 = .ok (.if_icmp .ne 11, 3) := by decide +kernel
theorem dX9_sum_41 : decode cX9_sum 41 = .ok (.aload_n 0, 1) := by decide +kernel
theorem dX9_sum_42 : decode cX9_sum 42 = .ok (.iload_n 1, 1) := by decide +kernel
theorem dX9_sum_43 : decode cX9_sum 43 = .ok (.invokevirtual 121, 3) := by decide +kernel
theorem dX9_sum_46 : decode cX9_sum 46 = .ok (.goto 5, 3) := by decide +kernel
theorem dX9_sum_49 : decode cX9_sum 49 = .ok (.bipush (-2), 2) := by decide +kernel
theorem dX9_sum_51 : decode cX9_sum 51 = .ok (.ireturn, 1) := by decide +kernel
theorem dX9_isBetter_0 : decode cX9_isBetter 0 = .ok (.aload_n 0, 1) := by decide +kernel
theorem dX9_isBetter_1 : decode cX9_isBetter 1 = .ok (.iload_n 1, 1) := by decide +kernel
theorem dX9_isBetter_2 : decode cX9_isBetter 2 = .ok (.invokevirtual 118, 3) := by decide +kernel
theorem dX9_isBetter_5 : decode cX9_isBetter 5 = .ok (.aload_n 0, 1) := by decide +kernel
theorem dX9_isBetter_6 : decode cX9_isBetter 6 = .ok (.iload_n 2, 1) := by decide +kernel
theorem dX9_isBetter_7 : decode cX9_isBetter 7 = .ok (.invokevirtual 118, 3) := by decide +kernel
theorem dX9_isBetter_10 : decode cX9_isBetter 10 = .ok (.isub, 1) := by decide +kernel
theorem dX9_isBetter_11 : decode cX9_isBetter 11 = .ok (.istore_n 3, 1) := by decide +kernel
theorem dX9_isBetter_12 : decode cX9_isBetter 12 = .ok (.iload_n 2, 1) := by decide +kernel
theorem dX9_isBetter_13 : decode cX9_isBetter 13 = .ok (.ifCond .eq 22, 3) := by decide +kernel
theorem dX9_isBetter_16 : decode cX9_isBetter 16 = .ok (.iload_n 3, 1) := by decide +kernel
theorem dX9_isBetter_17 : decode cX9_isBetter 17 = .ok (.ifCond .gt 18, 3) := by decide +kernel
theorem dX9_isBetter_20 : decode cX9_isBetter 20 = .ok (.iload_n 3, 1) := by decide +kernel
theorem dX9_isBetter_21 : decode cX9_isBetter 21 = .ok (.ifCond .ne 18, 3) := by decide +kernel
theorem dX9_isBetter_24 : decode cX9_isBetter 24 = .ok (.iload_n 1, 1) := by decide +kernel
theorem dX9_isBetter_25 : decode cX9_isBetter 25 = .ok (.invokestatic 102, 3) := by decide +kernel
theorem dX9_isBetter_28 : decode cX9_isBetter 28 = .ok (.iload_n 2, 1) := by decide +kernel
theorem dX9_isBetter_29 : decode cX9_isBetter 29 = .ok (.invokestatic 102, 3) := by decide +kernel
theorem dX9_isBetter_32 : decode cX9_isBetter 32 = .ok (.if_icmp .ge 7, 3) := by decide +kernel
theorem dX9_isBetter_35 : decode cX9_isBetter 35 = .ok (.iconst 1, 1) := by decide +kernel
theorem dX9_isBetter_36 : decode cX9_isBetter 36 = .ok (.goto 4, 3) := by decide +kernel
theorem dX9_isBetter_39 : decode cX9_isBetter 39 = .ok (.iconst 0, 1) := by decide +kernel
theorem dX9_isBetter_40 : decode cX9_isBetter 40 = .ok (.ireturn, 1) := by decide +kernel
theorem dX9_bestSum_0 : decode cX9_bestSum 0 = .ok (.iconst 0, 1) := by decide +kernel
theorem dX9_bestSum_1 : decode cX9_bestSum 1 = .ok (.istore_n 1, 1) := by decide +kernel
