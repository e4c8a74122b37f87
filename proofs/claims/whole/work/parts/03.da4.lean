theorem dX7_spells_38 : decode cX7_spells 38 = .ok (.ireturn, 1) := by decide +kernel
theorem dX7_spells_39 : decode cX7_spells 39 = .ok (.iinc 2 1, 3) := by decide +kernel
theorem dX7_spells_42 : decode cX7_spells 42 = .ok (.goto (-27), 3) := by decide +kernel
theorem dX7_spells_45 : decode cX7_spells 45 = .ok (.iconst 1, 1) := by decide +kernel
theorem dX7_spells_46 : decode cX7_spells 46 = .ok (.ireturn, 1) := by decide +kernel
theorem dX7_toldNumber_0 : decode cX7_toldNumber 0 = .ok (.aload_n 0, 1) := by decide +kernel
theorem dX7_toldNumber_1 : decode cX7_toldNumber 1 = .ok (.ldc 29, 2) := by decide +kernel
theorem dX7_toldNumber_3 : decode cX7_toldNumber 3 = .ok (.invokevirtual 31, 3) := by decide +kernel
theorem dX7_toldNumber_6 : decode cX7_toldNumber 6 = .ok (.ifCond .eq 5, 3) := by decide +kernel
theorem dX7_toldNumber_9 : decode cX7_toldNumber 9 = .ok (.iconst 2, 1) := by decide +kernel
theorem dX7_toldNumber_10 : decode cX7_toldNumber 10 = .ok (.ireturn, 1) := by decide +kernel
theorem dX7_toldNumber_11 : decode cX7_toldNumber 11 = .ok (.aload_n 0, 1) := by decide +kernel
theorem dX7_toldNumber_12 : decode cX7_toldNumber 12 = .ok (.ldc 35, 2) := by decide +kernel
theorem dX7_toldNumber_14 : decode cX7_toldNumber 14 = .ok (.invokevirtual 31, 3) := by decide +kernel
theorem dX7_toldNumber_17 : decode cX7_toldNumber 17 = .ok (.ifCond .eq 5, 3) := by decide +kernel
theorem dX7_toldNumber_20 : decode cX7_toldNumber 20 = .ok (.iconst 3, 1) := by decide +kernel
theorem dX7_toldNumber_21 : decode cX7_toldNumber 21 = .ok (.ireturn, 1) := by decide +kernel
theorem dX7_toldNumber_22 : decode cX7_toldNumber 22 = .ok (.aload_n 0, 1) := by decide +kernel
theorem dX7_toldNumber_23 : decode cX7_toldNumber 23 = .ok (.ldc 37, 2) := by decide +kernel
theorem dX7_toldNumber_25 : decode cX7_toldNumber 25 = .ok (.invokevirtual 31, 3) := by decide +kernel
theorem dX7_toldNumber_28 : decode cX7_toldNumber 28 = .ok (.ifCond .eq 5, 3) := by decide +kernel
theorem dX7_toldNumber_31 : decode cX7_toldNumber 31 = .ok (.iconst 5, 1) := by decide +kernel
theorem dX7_toldNumber_32 : decode cX7_toldNumber 32 = .ok (.ireturn, 1) := by decide +kernel
theorem dX7_toldNumber_33 : decode cX7_toldNumber 33 = .ok (.aload_n 0, 1) := by decide +kernel
theorem dX7_toldNumber_34 : decode cX7_toldNumber 34 = .ok (.ldc 39, 2) := by decide +kernel
theorem dX7_toldNumber_36 : decode cX7_toldNumber 36 = .ok (.invokevirtual 31, 3) := by decide +kernel
theorem dX7_toldNumber_39 : decode cX7_toldNumber 39 = .ok (.ifCond .eq 8, 3) := by decide +kernel
theorem dX7_toldNumber_42 : decode cX7_toldNumber 42 = .ok (.bipush 7, 2) := by decide +kernel
theorem dX7_toldNumber_44 : decode cX7_toldNumber 44 = .ok (.goto 4, 3) := by decide +kernel
theorem dX7_toldNumber_47 : decode cX7_toldNumber 47 = .ok (.iconst 0, 1) := by decide +kernel
theorem dX7_toldNumber_48 : decode cX7_toldNumber 48 = .ok (.ireturn, 1) := by decide +kernel
theorem dX8_init_0 : decode cX8_init 0 = .ok (.aload_n 0, 1) := by decide +kernel
theorem dX8_init_1 : decode cX8_init 1 = .ok (.invokespecial 3, 3) := by decide +kernel
theorem dX8_init_4 : decode cX8_init 4 = .ok (.aload_n 0, 1) := by decide +kernel
theorem dX8_init_5 : decode cX8_init 5 = .ok (.new 9, 3) := by decide +kernel
theorem dX8_init_8 : decode cX8_init 8 = .ok (.dup, 1) := by decide +kernel
theorem dX8_init_9 : decode cX8_init 9 = .ok (.invokespecial 11, 3) := by decide +kernel
theorem dX8_init_12 : decode cX8_init 12 = .ok (.putfield 12, 3) := by decide +kernel
theorem dX8_init_15 : decode cX8_init 15 = .ok (.aload_n 0, 1) := by decide +kernel
theorem dX8_init_16 : decode cX8_init 16 = .ok (.new 16, 3) := by decide +kernel
theorem dX8_init_19 : decode cX8_init 19 = .ok (.dup, 1) := by decide +kernel
theorem dX8_init_20 : decode cX8_init 20 = .ok (.invokespecial 18, 3) := by decide +kernel
theorem dX8_init_23 : decode cX8_init 23 = .ok (.putfield 19, 3) := by decide +kernel
theorem dX8_init_26 : decode cX8_init 26 = .ok (.aload_n 0, 1) := by decide +kernel
theorem dX8_init_27 : decode cX8_init 27 = .ok (.new 23, 3) := by decide +kernel
theorem dX8_init_30 : decode cX8_init 30 = .ok (.dup, 1) := by decide +kernel
theorem dX8_init_31 : decode cX8_init 31 = .ok (.invokespecial 25, 3) := by decide +kernel
theorem dX8_init_34 : decode cX8_init 34 = .ok (.putfield 26, 3) := by decide +kernel
theorem dX8_init_37 : decode cX8_init 37 = .ok (.aload_n 0, 1) := by decide +kernel
theorem dX8_init_38 : decode cX8_init 38 = .ok (.new 30, 3) := by decide +kernel
theorem dX8_init_41 : decode cX8_init 41 = .ok (.dup, 1) := by decide +kernel
theorem dX8_init_42 : decode cX8_init 42 = .ok (.aload_n 0, 1) := by decide +kernel
theorem dX8_init_43 : decode cX8_init 43 = .ok (.getfield 26, 3) := by decide +kernel
theorem dX8_init_46 : decode cX8_init 46 = .ok (.invokespecial 32, 3) := by decide +kernel
theorem dX8_init_49 : decode cX8_init 49 = .ok (.putfield 35, 3) := by decide +kernel
theorem dX8_init_52 : decode cX8_init 52 = .ok (.aload_n 0, 1) := by decide +kernel
theorem dX8_init_53 : decode cX8_init 53 = .ok (.new 39, 3) := by decide +kernel
theorem dX8_init_56 : decode cX8_init 56 = .ok (.dup, 1) := by decide +kernel
theorem dX8_init_57 : decode cX8_init 57 = .ok (.invokespecial 41, 3) := by decide +kernel
theorem dX8_init_60 : decode cX8_init 60 = .ok (.putfield 42, 3) := by decide +kernel
theorem dX8_init_63 : decode cX8_init 63 = .ok (.return_, 1) := by decide +kernel
theorem dX8_letter_0 : decode cX8_letter 0 = .ok (.iload_n 1, 1) := by decide +kernel
theorem dX8_letter_1 : decode cX8_letter 1 = .ok (.ifCond .lt 9, 3) := by decide +kernel
theorem dX8_letter_4 : decode cX8_letter 4 = .ok (.iload_n 1, 1) := by decide +kernel
theorem dX8_letter_5 : decode cX8_letter 5 = .ok (.bipush 10, 2) := by decide +kernel
theorem dX8_letter_7 : decode cX8_letter 7 = .ok (.if_icmp .lt 5, 3) := by decide +kernel
theorem dX8_letter_10 : decode cX8_letter 10 = .ok (.iconst (-1), 1) := by decide +kernel
theorem dX8_letter_11 : decode cX8_letter 11 = .ok (.ireturn, 1) := by decide +kernel
theorem dX8_letter_12 : decode cX8_letter 12 = .ok (.iload_n 2, 1) := by decide +kernel
theorem dX8_letter_13 : decode cX8_letter 13 = .ok (.ifCond .lt 10, 3) := by decide +kernel
theorem dX8_letter_16 : decode cX8_letter 16 = .ok (.iload_n 2, 1) := by decide +kernel
theorem dX8_letter_17 : decode cX8_letter 17 = .ok (.sipush 255, 3) := by decide +kernel
theorem dX8_letter_20 : decode cX8_letter 20 = .ok (.if_icmp .le 6, 3) := by decide +kernel
theorem dX8_letter_23 : decode cX8_letter 23 = .ok (.bipush (-2), 2) := by decide +kernel
theorem dX8_letter_25 : decode cX8_letter 25 = .ok (.ireturn, 1) := by decide +kernel
theorem dX8_letter_26 : decode cX8_letter 26 = .ok (.aload_n 0, 1) := by decide +kernel
theorem dX8_letter_27 : decode cX8_letter 27 = .ok (.getfield 12, 3) := by decide +kernel
theorem dX8_letter_30 : decode cX8_letter 30 = .ok (.iload_n 1, 1) := by decide +kernel
theorem dX8_letter_31 : decode cX8_letter 31 = .ok (.iload_n 2, 1) := by decide +kernel
theorem dX8_letter_32 : decode cX8_letter 32 = .ok (.invokevirtual 46, 3) := by decide +kernel
theorem dX8_letter_35 : decode cX8_letter 35 = .ok (.ifCond .eq 7, 3) := by decide +kernel
theorem dX8_letter_38 : decode cX8_letter 38 = .ok (.iconst 1, 1) := by decide +kernel
theorem dX8_letter_39 : decode cX8_letter 39 = .ok (.goto 4, 3) := by decide +kernel
theorem dX8_letter_42 : decode cX8_letter 42 = .ok (.iconst 0, 1) := by decide +kernel
theorem dX8_letter_43 : decode cX8_letter 43 = .ok (.ireturn, 1) := by decide +kernel
theorem dX8_drop_0 : decode cX8_drop 0 = .ok (.aload_n 0, 1) := by decide +kernel
theorem dX8_drop_1 : decode cX8_drop 1 = .ok (.getfield 12, 3) := by decide +kernel
theorem dX8_drop_4 : decode cX8_drop 4 = .ok (.iload_n 1, 1) := by decide +kernel
theorem dX8_drop_5 : decode cX8_drop 5 = .ok (.invokevirtual 50, 3) := by decide +kernel
theorem dX8_drop_8 : decode cX8_drop 8 = .ok (.ifCond .eq 14, 3) := by decide +kernel
theorem dX8_drop_11 : decode cX8_drop 11 = .ok (.aload_n 0, 1) := by decide +kernel
theorem dX8_drop_12 : decode cX8_drop 12 = .ok (.getfield 12, 3) := by decide +kernel
theorem dX8_drop_15 : decode cX8_drop 15 = .ok (.iload_n 1, 1) := by decide +kernel
theorem dX8_drop_16 : decode cX8_drop 16 = .ok (.invokevirtual 54, 3) := by decide +kernel
theorem dX8_drop_19 : decode cX8_drop 19 = .ok (.goto 4, 3) := by decide +kernel
theorem dX8_drop_22 : decode cX8_drop 22 = .ok (.iconst (-1), 1) := by decide +kernel
theorem dX8_drop_23 : decode cX8_drop 23 = .ok (.ireturn, 1) := by decide +kernel
theorem dX8_has_0 : decode cX8_has 0 = .ok (.iload_n 1, 1) := by decide +kernel
theorem dX8_has_1 : decode cX8_has 1 = .ok (.invokestatic 58, 3) := by decide +kernel
theorem dX8_has_4 : decode cX8_has 4 = .ok (.ifCond .eq 14, 3) := by decide +kernel
theorem dX8_has_7 : decode cX8_has 7 = .ok (.aload_n 0, 1) := by decide +kernel
theorem dX8_has_8 : decode cX8_has 8 = .ok (.getfield 12, 3) := by decide +kernel
theorem dX8_has_11 : decode cX8_has 11 = .ok (.iload_n 2, 1) := by decide +kernel
theorem dX8_has_12 : decode cX8_has 12 = .ok (.invokevirtual 50, 3) := by decide +kernel
theorem dX8_has_15 : decode cX8_has 15 = .ok (.ifCond .ne 5, 3) := by decide +kernel
theorem dX8_has_18 : decode cX8_has 18 = .ok (.iconst (-1), 1) := by decide +kernel
theorem dX8_has_19 : decode cX8_has 19 = .ok (.ireturn, 1) := by decide +kernel
theorem dX8_has_20 : decode cX8_has 20 = .ok (.iload_n 3, 1) := by decide +kernel
theorem dX8_has_21 : decode cX8_has 21 = .ok (.ifCond .eq 11, 3) := by decide +kernel
theorem dX8_has_24 : decode cX8_has 24 = .ok (.iload_n 3, 1) := by decide +kernel
theorem dX8_has_25 : decode cX8_has 25 = .ok (.iconst 1, 1) := by decide +kernel
theorem dX8_has_26 : decode cX8_has 26 = .ok (.if_icmp .eq 6, 3) := by decide +kernel
theorem dX8_has_29 : decode cX8_has 29 = .ok (.bipush (-2), 2) := by decide +kernel
theorem dX8_has_31 : decode cX8_has 31 = .ok (.ireturn, 1) := by decide +kernel
theorem dX8_has_32 : decode cX8_has 32 = .ok (.aload_n 0, 1) := by decide +kernel
theorem dX8_has_33 : decode cX8_has 33 = .ok (.getfield 12, 3) := by decide +kernel
theorem dX8_has_36 : decode cX8_has 36 = .ok (.iload_n 1, 1) := by decide +kernel
theorem dX8_has_37 : decode cX8_has 37 = .ok (.iload_n 2, 1) := by decide +kernel
theorem dX8_has_38 : decode cX8_has 38 = .ok (.invokevirtual 61, 3) := by decide +kernel
theorem dX8_has_41 : decode cX8_has 41 = .ok (.istore 4, 2) := by decide +kernel
theorem dX8_has_43 : decode cX8_has 43 = .ok (.iload_n 3, 1) := by decide +kernel
theorem dX8_has_44 : decode cX8_has 44 = .ok (.iconst 1, 1) := by decide +kernel
theorem dX8_has_45 : decode cX8_has 45 = .ok (.if_icmp .ne 16, 3) := by decide +kernel
theorem dX8_has_48 : decode cX8_has 48 = .ok (.aload_n 0, 1) := by decide +kernel
theorem dX8_has_49 : decode cX8_has 49 = .ok (.getfield 12, 3) := by decide +kernel
theorem dX8_has_52 : decode cX8_has 52 = .ok (.iload_n 1, 1) := by decide +kernel
theorem dX8_has_53 : decode cX8_has 53 = .ok (.iload_n 2, 1) := by decide +kernel
theorem dX8_has_54 : decode cX8_has 54 = .ok (.invokevirtual 64, 3) := by decide +kernel
theorem dX8_has_57 : decode cX8_has 57 = .ok (.pop, 1) := by decide +kernel
theorem dX8_has_58 : decode cX8_has 58 = .ok (.goto 12, 3) := by decide +kernel
theorem dX8_has_61 : decode cX8_has 61 = .ok (.aload_n 0, 1) := by decide +kernel
theorem dX8_has_62 : decode cX8_has 62 = .ok (.getfield 12, 3) := by decide +kernel
theorem dX8_has_65 : decode cX8_has 65 = .ok (.iload_n 1, 1) := by decide +kernel
theorem dX8_has_66 : decode cX8_has 66 = .ok (.iload_n 2, 1) := by decide +kernel
theorem dX8_has_67 : decode cX8_has 67 = .ok (.invokevirtual 67, 3) := by decide +kernel
theorem dX8_has_70 : decode cX8_has 70 = .ok (.iload 4, 2) := by decide +kernel
theorem dX8_has_72 : decode cX8_has 72 = .ok (.ifCond .eq 7, 3) := by decide +kernel
theorem dX8_has_75 : decode cX8_has 75 = .ok (.iconst 1, 1) := by decide +kernel
theorem dX8_has_76 : decode cX8_has 76 = .ok (.goto 4, 3) := by decide +kernel
theorem dX8_has_79 : decode cX8_has 79 = .ok (.iconst 0, 1) := by decide +kernel
theorem dX8_has_80 : decode cX8_has 80 = .ok (.ireturn, 1) := by decide +kernel
theorem dX8_want_0 : decode cX8_want 0 = .ok (.iload_n 2, 1) := by decide +kernel
theorem dX8_want_1 : decode cX8_want 1 = .ok (.invokestatic 58, 3) := by decide +kernel
theorem dX8_want_4 : decode cX8_want 4 = .ok (.ifCond .eq 14, 3) := by decide +kernel
theorem dX8_want_7 : decode cX8_want 7 = .ok (.aload_n 0, 1) := by decide +kernel
theorem dX8_want_8 : decode cX8_want 8 = .ok (.getfield 12, 3) := by decide +kernel
theorem dX8_want_11 : decode cX8_want 11 = .ok (.iload_n 1, 1) := by decide +kernel
theorem dX8_want_12 : decode cX8_want 12 = .ok (.invokevirtual 50, 3) := by decide +kernel
theorem dX8_want_15 : decode cX8_want 15 = .ok (.ifCond .ne 5, 3) := by decide +kernel
theorem dX8_want_18 : decode cX8_want 18 = .ok (.iconst (-1), 1) := by decide +kernel
theorem dX8_want_19 : decode cX8_want 19 = .ok (.ireturn, 1) := by decide +kernel
theorem dX8_want_20 : decode cX8_want 20 = .ok (.aload_n 0, 1) := by decide +kernel
theorem dX8_want_21 : decode cX8_want 21 = .ok (.getfield 12, 3) := by decide +kernel
theorem dX8_want_24 : decode cX8_want 24 = .ok (.iload_n 2, 1) := by decide +kernel
theorem dX8_want_25 : decode cX8_want 25 = .ok (.iload_n 1, 1) := by decide +kernel
theorem dX8_want_26 : decode cX8_want 26 = .ok (.invokevirtual 61, 3) := by decide +kernel
theorem dX8_want_29 : decode cX8_want 29 = .ok (.ifCond .ne 18, 3) := by decide +kernel
theorem dX8_want_32 : decode cX8_want 32 = .ok (.aload_n 0, 1) := by decide +kernel
theorem dX8_want_33 : decode cX8_want 33 = .ok (.getfield 12, 3) := by decide +kernel
theorem dX8_want_36 : decode cX8_want 36 = .ok (.getfield 71, 3) := by decide +kernel
theorem dX8_want_39 : decode cX8_want 39 = .ok (.iload_n 1, 1) := by decide +kernel
theorem dX8_want_40 : decode cX8_want 40 = .ok (.iload_n 2, 1) := by decide +kernel
theorem dX8_want_41 : decode cX8_want 41 = .ok (.invokevirtual 75, 3) := by decide +kernel
theorem dX8_want_44 : decode cX8_want 44 = .ok (.ifCond .lt 6, 3) := by decide +kernel
theorem dX8_want_47 : decode cX8_want 47 = .ok (.bipush (-3), 2) := by decide +kernel
theorem dX8_want_49 : decode cX8_want 49 = .ok (.ireturn, 1) := by decide +kernel
theorem dX8_want_50 : decode cX8_want 50 = .ok (.aload_n 0, 1) := by decide +kernel
theorem dX8_want_51 : decode cX8_want 51 = .ok (.getfield 12, 3) := by decide +kernel
theorem dX8_want_54 : decode cX8_want 54 = .ok (.getfield 71, 3) := by decide +kernel
theorem dX8_want_57 : decode cX8_want 57 = .ok (.iload_n 1, 1) := by decide +kernel
theorem dX8_want_58 : decode cX8_want 58 = .ok (.iload_n 2, 1) := by decide +kernel
theorem dX8_want_59 : decode cX8_want 59 = .ok (.invokevirtual 81, 3) := by decide +kernel
theorem dX8_want_62 : decode cX8_want 62 = .ok (.ifCond .eq 16, 3) := by decide +kernel
theorem dX8_want_65 : decode cX8_want 65 = .ok (.aload_n 0, 1) := by decide +kernel
theorem dX8_want_66 : decode cX8_want 66 = .ok (.getfield 12, 3) := by decide +kernel
theorem dX8_want_69 : decode cX8_want 69 = .ok (.getfield 71, 3) := by decide +kernel
theorem dX8_want_72 : decode cX8_want 72 = .ok (.getfield 84, 3) := by decide +kernel
theorem dX8_want_75 : decode cX8_want 75 = .ok (.goto 5, 3) := by decide +kernel
theorem dX8_want_78 : decode cX8_want 78 = .ok (.bipush (-4), 2) := by decide +kernel
theorem dX8_want_80 : decode cX8_want 80 = .ok (.ireturn, 1) := by decide +kernel
theorem dX8_air_0 : decode cX8_air 0 = .ok (.iload_n 1, 1) := by decide +kernel
theorem dX8_air_1 : decode cX8_air 1 = .ok (.ifCond .lt 10, 3) := by decide +kernel
theorem dX8_air_4 : decode cX8_air 4 = .ok (.iload_n 1, 1) := by decide +kernel
theorem dX8_air_5 : decode cX8_air 5 = .ok (.sipush 255, 3) := by decide +kernel
theorem dX8_air_8 : decode cX8_air 8 = .ok (.if_icmp .le 6, 3) := by decide +kernel
theorem dX8_air_11 : decode cX8_air 11 = .ok (.bipush (-2), 2) := by decide +kernel
theorem dX8_air_13 : decode cX8_air 13 = .ok (.ireturn, 1) := by decide +kernel
theorem dX8_air_14 : decode cX8_air 14 = .ok (.aload_n 0, 1) := by decide +kernel
theorem dX8_air_15 : decode cX8_air 15 = .ok (.getfield 12, 3) := by decide +kernel
theorem dX8_air_18 : decode cX8_air 18 = .ok (.getfield 88, 3) := by decide +kernel
theorem dX8_air_21 : decode cX8_air 21 = .ok (.istore_n 2, 1) := by decide +kernel
theorem dX8_air_22 : decode cX8_air 22 = .ok (.aload_n 0, 1) := by decide +kernel
theorem dX8_air_23 : decode cX8_air 23 = .ok (.getfield 12, 3) := by decide +kernel
theorem dX8_air_26 : decode cX8_air 26 = .ok (.iload_n 1, 1) := by decide +kernel
theorem dX8_air_27 : decode cX8_air 27 = .ok (.putfield 88, 3) := by decide +kernel
theorem dX8_air_30 : decode cX8_air 30 = .ok (.iload_n 2, 1) := by decide +kernel
theorem dX8_air_31 : decode cX8_air 31 = .ok (.ireturn, 1) := by decide +kernel
theorem dX8_most_0 : decode cX8_most 0 = .ok (.iload_n 1, 1) := by decide +kernel
theorem dX8_most_1 : decode cX8_most 1 = .ok (.iconst 1, 1) := by decide +kernel
theorem dX8_most_2 : decode cX8_most 2 = .ok (.if_icmp .lt 9, 3) := by decide +kernel
theorem dX8_most_5 : decode cX8_most 5 = .ok (.iload_n 1, 1) := by decide +kernel
theorem dX8_most_6 : decode cX8_most 6 = .ok (.bipush 10, 2) := by decide +kernel
theorem dX8_most_8 : decode cX8_most 8 = .ok (.if_icmp .le 6, 3) := by decide +kernel
theorem dX8_most_11 : decode cX8_most 11 = .ok (.bipush (-2), 2) := by decide +kernel
theorem dX8_most_13 : decode cX8_most 13 = .ok (.ireturn, 1) := by decide +kernel
theorem dX8_most_14 : decode cX8_most 14 = .ok (.aload_n 0, 1) := by decide +kernel
theorem dX8_most_15 : decode cX8_most 15 = .ok (.getfield 12, 3) := by decide +kernel
theorem dX8_most_18 : decode cX8_most 18 = .ok (.getfield 91, 3) := by decide +kernel
theorem dX8_most_21 : decode cX8_most 21 = .ok (.istore_n 2, 1) := by decide +kernel
theorem dX8_most_22 : decode cX8_most 22 = .ok (.aload_n 0, 1) := by decide +kernel
theorem dX8_most_23 : decode cX8_most 23 = .ok (.getfield 12, 3) := by decide +kernel
theorem dX8_most_26 : decode cX8_most 26 = .ok (.iload_n 1, 1) := by decide +kernel
theorem dX8_most_27 : decode cX8_most 27 = .ok (.putfield 91, 3) := by decide +kernel
theorem dX8_most_30 : decode cX8_most 30 = .ok (.iload_n 2, 1) := by decide +kernel
theorem dX8_most_31 : decode cX8_most 31 = .ok (.ireturn, 1) := by decide +kernel
theorem dX8_anew_0 : decode cX8_anew 0 = .ok (.aload_n 0, 1) := by decide +kernel
theorem dX8_anew_1 : decode cX8_anew 1 = .ok (.getfield 12, 3) := by decide +kernel
theorem dX8_anew_4 : decode cX8_anew 4 = .ok (.getfield 71, 3) := by decide +kernel
theorem dX8_anew_7 : decode cX8_anew 7 = .ok (.getfield 84, 3) := by decide +kernel
theorem dX8_anew_10 : decode cX8_anew 10 = .ok (.istore_n 1, 1) := by decide +kernel
theorem dX8_anew_11 : decode cX8_anew 11 = .ok (.aload_n 0, 1) := by decide +kernel
theorem dX8_anew_12 : decode cX8_anew 12 = .ok (.getfield 12, 3) := by decide +kernel
theorem dX8_anew_15 : decode cX8_anew 15 = .ok (.invokevirtual 94, 3) := by decide +kernel
theorem dX8_anew_18 : decode cX8_anew 18 = .ok (.iload_n 1, 1) := by decide +kernel
theorem dX8_anew_19 : decode cX8_anew 19 = .ok (.ireturn, 1) := by decide +kernel
theorem dX8_entry_0 : decode cX8_entry 0 = .ok (.iload_n 1, 1) := by decide +kernel
theorem dX8_entry_1 : decode cX8_entry 1 = .ok (.ifCond .lt 17, 3) := by decide +kernel
theorem dX8_entry_4 : decode cX8_entry 4 = .ok (.iload_n 1, 1) := by decide +kernel
theorem dX8_entry_5 : decode cX8_entry 5 = .ok (.aload_n 0, 1) := by decide +kernel
theorem dX8_entry_6 : decode cX8_entry 6 = .ok (.getfield 12, 3) := by decide +kernel
theorem dX8_entry_9 : decode cX8_entry 9 = .ok (.getfield 71, 3) := by decide +kernel
theorem dX8_entry_12 : decode cX8_entry 12 = .ok (.getfield 84, 3) := by decide +kernel
theorem dX8_entry_15 : decode cX8_entry 15 = .ok (.if_icmp .lt 5, 3) := by decide +kernel
theorem dX8_entry_18 : decode cX8_entry 18 = .ok (.iconst (-1), 1) := by decide +kernel
theorem dX8_entry_19 : decode cX8_entry 19 = .ok (.ireturn, 1) := by decide +kernel
theorem dX8_entry_20 : decode cX8_entry 20 = .ok (.iload_n 2, 1) := by decide +kernel
theorem dX8_entry_21 : decode cX8_entry 21 = .ok (.ifCond .eq 11, 3) := by decide +kernel
theorem dX8_entry_24 : decode cX8_entry 24 = .ok (.iload_n 2, 1) := by decide +kernel
theorem dX8_entry_25 : decode cX8_entry 25 = .ok (.iconst 1, 1) := by decide +kernel
theorem dX8_entry_26 : decode cX8_entry 26 = .ok (.if_icmp .eq 6, 3) := by decide +kernel
theorem dX8_entry_29 : decode cX8_entry 29 = .ok (.bipush (-2), 2) := by decide +kernel
theorem dX8_entry_31 : decode cX8_entry 31 = .ok (.ireturn, 1) := by decide +kernel
theorem dX8_entry_32 : decode cX8_entry 32 = .ok (.iload_n 2, 1) := by decide +kernel
theorem dX8_entry_33 : decode cX8_entry 33 = .ok (.ifCond .ne 18, 3) := by decide +kernel
theorem dX8_entry_36 : decode cX8_entry 36 = .ok (.aload_n 0, 1) := by decide +kernel
theorem dX8_entry_37 : decode cX8_entry 37 = .ok (.getfield 12, 3) := by decide +kernel
theorem dX8_entry_40 : decode cX8_entry 40 = .ok (.getfield 71, 3) := by decide +kernel
theorem dX8_entry_43 : decode cX8_entry 43 = .ok (.getfield 97, 3) := by decide +kernel
theorem dX8_entry_46 : decode cX8_entry 46 = .ok (.iload_n 1, 1) := by decide +kernel
theorem dX8_entry_47 : decode cX8_entry 47 = .ok (.iaload, 1) := by decide +kernel
theorem dX8_entry_48 : decode cX8_entry 48 = .ok (.goto 15, 3) := by decide +kernel
theorem dX8_entry_51 : decode cX8_entry 51 = .ok (.aload_n 0, 1) := by decide +kernel
theorem dX8_entry_52 : decode cX8_entry 52 = .ok (.getfield 12, 3) := by decide +kernel
theorem dX8_entry_55 : decode cX8_entry 55 = .ok (.getfield 71, 3) := by decide +kernel
theorem dX8_entry_58 : decode cX8_entry 58 = .ok (.getfield 101, 3) := by decide +kernel
theorem dX8_entry_61 : decode cX8_entry 61 = .ok (.iload_n 1, 1) := by decide +kernel
theorem dX8_entry_62 : decode cX8_entry 62 = .ok (.iaload, 1) := by decide +kernel
theorem dX8_entry_63 : decode cX8_entry 63 = .ok (.ireturn, 1) := by decide +kernel
theorem dX8_having_0 : decode cX8_having 0 = .ok (.iload_n 1, 1) := by decide +kernel
theorem dX8_having_1 : decode cX8_having 1 = .ok (.invokestatic 58, 3) := by decide +kernel
theorem dX8_having_4 : decode cX8_having 4 = .ok (.ifCond .eq 15, 3) := by decide +kernel
theorem dX8_having_7 : decode cX8_having 7 = .ok (.aload_n 0, 1) := by decide +kernel
theorem dX8_having_8 : decode cX8_having 8 = .ok (.getfield 12, 3) := by decide +kernel
theorem dX8_having_11 : decode cX8_having 11 = .ok (.getfield 104, 3) := by decide +kernel
theorem dX8_having_14 : decode cX8_having 14 = .ok (.iload_n 1, 1) := by decide +kernel
theorem dX8_having_15 : decode cX8_having 15 = .ok (.iaload, 1) := by decide +kernel
theorem dX8_having_16 : decode cX8_having 16 = .ok (.goto 4, 3) := by decide +kernel
theorem dX8_having_19 : decode cX8_having 19 = .ok (.iconst (-1), 1) := by decide +kernel
theorem dX8_having_20 : decode cX8_having 20 = .ok (.ireturn, 1) := by decide +kernel
theorem dX8_reads_0 : decode cX8_reads 0 = .ok (.iload_n 1, 1) := by decide +kernel
theorem dX8_reads_1 : decode cX8_reads 1 = .ok (.invokestatic 58, 3) := by decide +kernel
theorem dX8_reads_4 : decode cX8_reads 4 = .ok (.ifCond .ne 5, 3) := by decide +kernel
theorem dX8_reads_7 : decode cX8_reads 7 = .ok (.iconst (-1), 1) := by decide +kernel
theorem dX8_reads_8 : decode cX8_reads 8 = .ok (.ireturn, 1) := by decide +kernel
theorem dX8_reads_9 : decode cX8_reads 9 = .ok (.aload_n 0, 1) := by decide +kernel
theorem dX8_reads_10 : decode cX8_reads 10 = .ok (.getfield 12, 3) := by decide +kernel
theorem dX8_reads_13 : decode cX8_reads 13 = .ok (.iload_n 2, 1) := by decide +kernel
theorem dX8_reads_14 : decode cX8_reads 14 = .ok (.invokevirtual 107, 3) := by decide +kernel
theorem dX8_reads_17 : decode cX8_reads 17 = .ok (.ifCond .eq 15, 3) := by decide +kernel
theorem dX8_reads_20 : decode cX8_reads 20 = .ok (.aload_n 0, 1) := by decide +kernel
theorem dX8_reads_21 : decode cX8_reads 21 = .ok (.getfield 12, 3) := by decide +kernel
theorem dX8_reads_24 : decode cX8_reads 24 = .ok (.iload_n 1, 1) := by decide +kernel
theorem dX8_reads_25 : decode cX8_reads 25 = .ok (.iload_n 2, 1) := by decide +kernel
theorem dX8_reads_26 : decode cX8_reads 26 = .ok (.invokevirtual 110, 3) := by decide +kernel
theorem dX8_reads_29 : decode cX8_reads 29 = .ok (.goto 5, 3) := by decide +kernel
theorem dX8_reads_32 : decode cX8_reads 32 = .ok (.bipush (-2), 2) := by decide +kernel
theorem dX8_reads_34 : decode cX8_reads 34 = .ok (.ireturn, 1) := by decide +kernel
theorem dX8_sum_0 : decode cX8_sum 0 = .ok (.aload_n 0, 1) := by decide +kernel
theorem dX8_sum_1 : decode cX8_sum 1 = .ok (.getfield 12, 3) := by decide +kernel
theorem dX8_sum_4 : decode cX8_sum 4 = .ok (.iload_n 1, 1) := by decide +kernel
theorem dX8_sum_5 : decode cX8_sum 5 = .ok (.invokevirtual 107, 3) := by decide +kernel
theorem dX8_sum_8 : decode cX8_sum 8 = .ok (.ifCond .ne 6, 3) := by decide +kernel
theorem dX8_sum_11 : decode cX8_sum 11 = .ok (.bipush (-2), 2) := by decide +kernel
theorem dX8_sum_13 : decode cX8_sum 13 = .ok (.ireturn, 1) := by decide +kernel
theorem dX8_sum_14 : decode cX8_sum 14 = .ok (.iload_n 2, 1) := by decide +kernel
theorem dX8_sum_15 : decode cX8_sum 15 = .ok (.tableswitch 52 0 2 #[25, 34, 43], 25) := by decide +kernel
theorem dX8_sum_40 : decode cX8_sum 40 = .ok (.aload_n 0, 1) := by decide +kernel
theorem dX8_sum_41 : decode cX8_sum 41 = .ok (.getfield 12, 3) := by decide +kernel
theorem dX8_sum_44 : decode cX8_sum 44 = .ok (.iload_n 1, 1) := by decide +kernel
theorem dX8_sum_45 : decode cX8_sum 45 = .ok (.invokevirtual 113, 3) := by decide +kernel
theorem dX8_sum_48 : decode cX8_sum 48 = .ok (.ireturn, 1) := by decide +kernel
theorem dX8_sum_49 : decode cX8_sum 49 = .ok (.aload_n 0, 1) := by decide +kernel
theorem dX8_sum_50 : decode cX8_sum 50 = .ok (.getfield 12, 3) := by decide +kernel
theorem dX8_sum_53 : decode cX8_sum 53 = .ok (.iload_n 1, 1) := by decide +kernel
theorem dX8_sum_54 : decode cX8_sum 54 = .ok (.invokevirtual 116, 3) := by decide +kernel
theorem dX8_sum_57 : decode cX8_sum 57 = .ok (.ireturn, 1) := by decide +kernel
theorem dX8_sum_58 : decode cX8_sum 58 = .ok (.aload_n 0, 1) := by decide +kernel
theorem dX8_sum_59 : decode cX8_sum 59 = .ok (.getfield 12, 3) := by decide +kernel
theorem dX8_sum_62 : decode cX8_sum 62 = .ok (.iload_n 1, 1) := by decide +kernel
theorem dX8_sum_63 : decode cX8_sum 63 = .ok (.invokevirtual 119, 3) := by decide +kernel
theorem dX8_sum_66 : decode cX8_sum 66 = .ok (.ireturn, 1) := by decide +kernel
theorem dX8_sum_67 : decode cX8_sum 67 = .ok (.bipush (-2), 2) := by decide +kernel
theorem dX8_sum_69 : decode cX8_sum 69 = .ok (.ireturn, 1) := by decide +kernel
theorem dX8_best_0 : decode cX8_best 0 = .ok (.aload_n 0, 1) := by decide +kernel
theorem dX8_best_1 : decode cX8_best 1 = .ok (.getfield 12, 3) := by decide +kernel
theorem dX8_best_4 : decode cX8_best 4 = .ok (.invokevirtual 122, 3) := by decide +kernel
theorem dX8_best_7 : decode cX8_best 7 = .ok (.ireturn, 1) := by decide +kernel
theorem dX8_send_0 : decode cX8_send 0 = .ok (.aload_n 0, 1) := by decide +kernel
theorem dX8_send_1 : decode cX8_send 1 = .ok (.getfield 12, 3) := by decide +kernel
theorem dX8_send_4 : decode cX8_send 4 = .ok (.iload_n 1, 1) := by decide +kernel
theorem dX8_send_5 : decode cX8_send 5 = .ok (.invokevirtual 107, 3) := by decide +kernel
theorem dX8_send_8 : decode cX8_send 8 = .ok (.ifCond .eq 14, 3) := by decide +kernel
theorem dX8_send_11 : decode cX8_send 11 = .ok (.aload_n 0, 1) := by decide +kernel
theorem dX8_send_12 : decode cX8_send 12 = .ok (.getfield 12, 3) := by decide +kernel
theorem dX8_send_15 : decode cX8_send 15 = .ok (.iload_n 1, 1) := by decide +kernel
theorem dX8_send_16 : decode cX8_send 16 = .ok (.invokevirtual 126, 3) := by decide +kernel
theorem dX8_send_19 : decode cX8_send 19 = .ok (.goto 5, 3) := by decide +kernel
theorem dX8_send_22 : decode cX8_send 22 = .ok (.bipush (-2), 2) := by decide +kernel
theorem dX8_send_24 : decode cX8_send 24 = .ok (.ireturn, 1) := by decide +kernel
theorem dX8_serve_0 : decode cX8_serve 0 = .ok (.iload_n 1, 1) := by decide +kernel
theorem dX8_serve_1 : decode cX8_serve 1 = .ok (.ifCond .lt 9, 3) := by decide +kernel
theorem dX8_serve_4 : decode cX8_serve 4 = .ok (.iload_n 1, 1) := by decide +kernel
theorem dX8_serve_5 : decode cX8_serve 5 = .ok (.bipush 16, 2) := by decide +kernel
theorem dX8_serve_7 : decode cX8_serve 7 = .ok (.if_icmp .le 6, 3) := by decide +kernel
theorem dX8_serve_10 : decode cX8_serve 10 = .ok (.bipush (-2), 2) := by decide +kernel
theorem dX8_serve_12 : decode cX8_serve 12 = .ok (.ireturn, 1) := by decide +kernel
theorem dX8_serve_13 : decode cX8_serve 13 = .ok (.iconst 0, 1) := by decide +kernel
theorem dX8_serve_14 : decode cX8_serve 14 = .ok (.istore_n 2, 1) := by decide +kernel
theorem dX8_serve_15 : decode cX8_serve 15 = .ok (.iload_n 2, 1) := by decide +kernel
theorem dX8_serve_16 : decode cX8_serve 16 = .ok (.iload_n 1, 1) := by decide +kernel
theorem dX8_serve_17 : decode cX8_serve 17 = .ok (.if_icmp .ge 32, 3) := by decide +kernel
theorem dX8_serve_20 : decode cX8_serve 20 = .ok (.aload_n 0, 1) := by decide +kernel
theorem dX8_serve_21 : decode cX8_serve 21 = .ok (.getfield 12, 3) := by decide +kernel
theorem dX8_serve_24 : decode cX8_serve 24 = .ok (.invokevirtual 122, 3) := by decide +kernel
theorem dX8_serve_27 : decode cX8_serve 27 = .ok (.istore_n 3, 1) := by decide +kernel
theorem dX8_serve_28 : decode cX8_serve 28 = .ok (.iload_n 3, 1) := by decide +kernel
theorem dX8_serve_29 : decode cX8_serve 29 = .ok (.ifCond .ne 5, 3) := by decide +kernel
theorem dX8_serve_32 : decode cX8_serve 32 = .ok (.iload_n 2, 1) := by decide +kernel
theorem dX8_serve_33 : decode cX8_serve 33 = .ok (.ireturn, 1) := by decide +kernel
theorem dX8_serve_34 : decode cX8_serve 34 = .ok (.aload_n 0, 1) := by decide +kernel
theorem dX8_serve_35 : decode cX8_serve 35 = .ok (.getfield 12, 3) := by decide +kernel
theorem dX8_serve_38 : decode cX8_serve 38 = .ok (.iload_n 3, 1) := by decide +kernel
theorem dX8_serve_39 : decode cX8_serve 39 = .ok (.invokevirtual 126, 3) := by decide +kernel
theorem dX8_serve_42 : decode cX8_serve 42 = .ok (.pop, 1) := by decide +kernel
theorem dX8_serve_43 : decode cX8_serve 43 = .ok (.iinc 2 1, 3) := by decide +kernel
theorem dX8_serve_46 : decode cX8_serve 46 = .ok (.goto (-31), 3) := by decide +kernel
theorem dX8_serve_49 : decode cX8_serve 49 = .ok (.iload_n 1, 1) := by decide +kernel
theorem dX8_serve_50 : decode cX8_serve 50 = .ok (.ireturn, 1) := by decide +kernel
theorem dX8_key_0 : decode cX8_key 0 = .ok (.iload_n 1, 1) := by decide +kernel
theorem dX8_key_1 : decode cX8_key 1 = .ok (.ifCond .lt 9, 3) := by decide +kernel
theorem dX8_key_4 : decode cX8_key 4 = .ok (.iload_n 1, 1) := by decide +kernel
theorem dX8_key_5 : decode cX8_key 5 = .ok (.bipush 127, 2) := by decide +kernel
theorem dX8_key_7 : decode cX8_key 7 = .ok (.if_icmp .le 6, 3) := by decide +kernel
theorem dX8_key_10 : decode cX8_key 10 = .ok (.bipush (-2), 2) := by decide +kernel
theorem dX8_key_12 : decode cX8_key 12 = .ok (.ireturn, 1) := by decide +kernel
theorem dX8_key_13 : decode cX8_key 13 = .ok (.aload_n 0, 1) := by decide +kernel
theorem dX8_key_14 : decode cX8_key 14 = .ok (.getfield 19, 3) := by decide +kernel
theorem dX8_key_17 : decode cX8_key 17 = .ok (.iload_n 1, 1) := by decide +kernel
theorem dX8_key_18 : decode cX8_key 18 = .ok (.invokevirtual 129, 3) := by decide +kernel
theorem dX8_key_21 : decode cX8_key 21 = .ok (.ifCond .eq 13, 3) := by decide +kernel
theorem dX8_key_24 : decode cX8_key 24 = .ok (.aload_n 0, 1) := by decide +kernel
theorem dX8_key_25 : decode cX8_key 25 = .ok (.getfield 19, 3) := by decide +kernel
theorem dX8_key_28 : decode cX8_key 28 = .ok (.getfield 131, 3) := by decide +kernel
theorem dX8_key_31 : decode cX8_key 31 = .ok (.goto 5, 3) := by decide +kernel
theorem dX8_key_34 : decode cX8_key 34 = .ok (.bipush (-4), 2) := by decide +kernel
theorem dX8_key_36 : decode cX8_key 36 = .ok (.ireturn, 1) := by decide +kernel
theorem dX8_wipe_0 : decode cX8_wipe 0 = .ok (.aload_n 0, 1) := by decide +kernel
theorem dX8_wipe_1 : decode cX8_wipe 1 = .ok (.getfield 19, 3) := by decide +kernel
theorem dX8_wipe_4 : decode cX8_wipe 4 = .ok (.getfield 131, 3) := by decide +kernel
theorem dX8_wipe_7 : decode cX8_wipe 7 = .ok (.istore_n 1, 1) := by decide +kernel
theorem dX8_wipe_8 : decode cX8_wipe 8 = .ok (.aload_n 0, 1) := by decide +kernel
theorem dX8_wipe_9 : decode cX8_wipe 9 = .ok (.getfield 19, 3) := by decide +kernel
theorem dX8_wipe_12 : decode cX8_wipe 12 = .ok (.iconst 0, 1) := by decide +kernel
theorem dX8_wipe_13 : decode cX8_wipe 13 = .ok (.putfield 131, 3) := by decide +kernel
theorem dX8_wipe_16 : decode cX8_wipe 16 = .ok (.iload_n 1, 1) := by decide +kernel
theorem dX8_wipe_17 : decode cX8_wipe 17 = .ok (.ireturn, 1) := by decide +kernel
theorem dX8_word_0 : decode cX8_word 0 = .ok (.aload_n 0, 1) := by decide +kernel
theorem dX8_word_1 : decode cX8_word 1 = .ok (.getfield 19, 3) := by decide +kernel
theorem dX8_word_4 : decode cX8_word 4 = .ok (.invokevirtual 132, 3) := by decide +kernel
theorem dX8_word_7 : decode cX8_word 7 = .ok (.istore_n 1, 1) := by decide +kernel
theorem dX8_word_8 : decode cX8_word 8 = .ok (.iload_n 1, 1) := by decide +kernel
theorem dX8_word_9 : decode cX8_word 9 = .ok (.ifCond .ne 5, 3) := by decide +kernel
theorem dX8_word_12 : decode cX8_word 12 = .ok (.iconst (-1), 1) := by decide +kernel
theorem dX8_word_13 : decode cX8_word 13 = .ok (.ireturn, 1) := by decide +kernel
theorem dX8_word_14 : decode cX8_word 14 = .ok (.aload_n 0, 1) := by decide +kernel
theorem dX8_word_15 : decode cX8_word 15 = .ok (.getfield 19, 3) := by decide +kernel
theorem dX8_word_18 : decode cX8_word 18 = .ok (.iconst 0, 1) := by decide +kernel
theorem dX8_word_19 : decode cX8_word 19 = .ok (.putfield 131, 3) := by decide +kernel
theorem dX8_word_22 : decode cX8_word 22 = .ok (.aload_n 0, 1) := by decide +kernel
theorem dX8_word_23 : decode cX8_word 23 = .ok (.getfield 26, 3) := by decide +kernel
